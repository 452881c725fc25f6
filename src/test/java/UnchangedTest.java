import java.util.ArrayList;
import java.util.List;

/**
 * A call that throws changes nothing: each is made on a desk of its own, of which everything that
 * can be asked is then compared with a desk on which it was not made.
 */
public final class UnchangedTest {
    private interface On {
        void call(SalesDesk x);
    }

    private static List<String> due;

    public static void main(String[] args) {
        due = view(desk());
        for (int wrong : new int[] {Integer.MIN_VALUE, -2, Integer.MAX_VALUE}) {
            wrongNumbers(wrong);
            wrongValues(wrong);
        }
        wrongStates();
        fullDesk();
        Check.end();
    }

    /** Three accounts, three sellers, chances open, won, lost and open, and quotes that wait. */
    private static SalesDesk desk() {
        SalesDesk x = new SalesDesk();
        x.addAccount(-1, 3, 3);
        x.addAccount(0, 5, 5);
        x.addAccount(1, 7, 7);
        x.putRule(0, 0, 4, 2, 1);
        x.putRule(1, 5, 9, 6, 2);
        x.except(0, 3);
        x.addSeller(-1, 40);
        x.addSeller(0, 20);
        x.addSeller(1, 0);
        x.adjust(1, 17);
        for (int i = 0; i < 4; i++) {
            x.addChance(i % 3, 2 - i % 3, 1000 + i);
        }
        x.pass(3);
        x.quote(1, 0, 10);
        x.quote(0, 2, 30);
        for (int stage = 1; stage <= 4; stage++) {
            x.pass(stage);
            x.move(1, stage);
        }
        x.quote(2, 2, 15);
        x.move(2, 5);
        x.giveShare(0, 2, 1, 40);
        x.freeze();
        x.move(0, 1);
        x.pass(2);
        return x;
    }

    private static List<String> view(SalesDesk x) {
        List<String> view = new ArrayList<>();
        for (int i = 0; i < 4; i++) {
            view.add("stage " + x.stage(i) + " worth " + x.worth(i) + " counting " + counting(x, i));
            for (int stage = 0; stage <= 5; stage++) {
                view.add("daysIn " + x.daysIn(i, stage));
                view.add("inRegion " + x.inRegion(i, stage));
            }
        }
        for (int i = 0; i < 3; i++) {
            view.add("regionOf " + x.regionOf(i) + " won " + x.won(i));
            view.add("forecast " + x.forecast(i) + " own " + x.own(i) + " since " + x.since(0, i));
        }
        for (int days = 0; days <= 16; days++) {
            view.add("stalled " + x.stalled(days));
        }
        view.add("waiting " + x.waiting());
        probe(x, view);
        return view;
    }

    /** What can be seen only by calls that change: they come last. */
    private static void probe(SalesDesk x, List<String> view) {
        for (int seller = 0; seller < 3; seller++) {
            for (int other = 0; other < 3; other++) {
                if (other != seller) {
                    view.add("share " + x.giveShare(3, 2, other == 2 ? seller : other, 1));
                    view.add("share " + x.giveShare(0, 1, seller == 1 ? other : seller, 1));
                }
            }
            view.add("adjustment " + x.adjust(seller, 0) + " of " + x.forecast(seller));
            view.add("exception " + x.except(seller, -1) + ", else " + x.regionOf(seller));
        }
        for (int discount = 0; discount <= 99; discount++) {
            if (discount % 5 <= 1) {
                int seller = discount / 5 % 3;
                int made = discount < 45 ? x.quote(3, seller, discount) : -1;
                view.add("quote " + made + " waiting " + x.waiting());
            }
        }
        for (int seller = 2; seller >= 0; seller--) {
            for (int quote = 0; quote < 6; quote++) {
                view.add("approved " + approved(x, quote, seller) + " " + x.waiting());
            }
        }
        view.add("rules " + x.removeRule(1) + " " + x.regionOf(2) + " " + x.putRule(1, 0, 9, 0, 0));
        view.add("rules " + x.removeRule(0) + " " + x.removeRule(0));
        view.add("account " + x.addAccount(2, 0, 0) + " seller " + x.addSeller(2, 0));
        view.add("chance " + x.addChance(0, 0, 1) + " freeze " + x.freeze() + " day " + x.pass(1));
    }

    private static int counting(SalesDesk x, int chance) {
        try {
            return x.counting(chance);
        } catch (java.util.NoSuchElementException e) {
            return -1;
        }
    }

    private static boolean approved(SalesDesk x, int quote, int seller) {
        try {
            x.approve(quote, seller);
            return true;
        } catch (IllegalStateException e) {
            return false;
        }
    }

    private static void changesNothing(String call, Class<?> kind, On on) {
        SalesDesk x = desk();
        Check.failsToRun(call, kind, () -> on.call(x));
        List<String> got = view(x);
        for (int i = 0; i < due.size(); i++) {
            Check.holds(call + " changed: " + due.get(i) + " to " + got.get(i),
                    due.get(i).equals(got.get(i)));
        }
    }

    private static void wrongNumbers(int wrong) {
        Class<?> kind = Check.INDEX;
        changesNothing("addAccount " + wrong, kind, x -> x.addAccount(wrong, 0, 0));
        changesNothing("putRule " + wrong, kind, x -> x.putRule(wrong, 0, 9, 0, 0));
        changesNothing("removeRule " + wrong, kind, x -> x.removeRule(wrong));
        changesNothing("except " + wrong, kind, x -> x.except(wrong, 2));
        changesNothing("addSeller " + wrong, kind, x -> x.addSeller(wrong, 0));
        changesNothing("adjust " + wrong, kind, x -> x.adjust(wrong, 5));
        changesNothing("addChance of account " + wrong, kind, x -> x.addChance(wrong, 0, 5));
        changesNothing("addChance of seller " + wrong, kind, x -> x.addChance(0, wrong, 5));
        changesNothing("giveShare of chance " + wrong, kind, x -> x.giveShare(wrong, 2, 1, 5));
        changesNothing("giveShare from " + wrong, kind, x -> x.giveShare(0, wrong, 1, 5));
        changesNothing("giveShare to " + wrong, kind, x -> x.giveShare(0, 2, wrong, 5));
        changesNothing("move " + wrong, kind, x -> x.move(wrong, 1));
        changesNothing("quote for " + wrong, kind, x -> x.quote(wrong, 0, 0));
        changesNothing("quote of " + wrong, kind, x -> x.quote(0, wrong, 0));
        changesNothing("approve " + wrong, kind, x -> x.approve(wrong, 0));
        changesNothing("approve of " + wrong, kind, x -> x.approve(1, wrong));
        changesNothing("since " + wrong, kind, x -> x.since(wrong, 0));
        changesNothing("since of " + wrong, kind, x -> x.since(0, wrong));
    }

    private static void wrongValues(int wrong) {
        Class<?> kind = Check.RANGE;
        int wrongMoney = wrong == -2 ? -1000001 : wrong;
        changesNothing("pass " + wrong, kind, x -> x.pass(wrong));
        changesNothing("addAccount, area " + wrong, kind, x -> x.addAccount(-1, wrong, 0));
        changesNothing("addAccount, size " + wrong, kind, x -> x.addAccount(-1, 0, wrong));
        changesNothing("putRule, first " + wrong, kind, x -> x.putRule(0, wrong, 9, 0, 0));
        changesNothing("putRule, last " + wrong, kind, x -> x.putRule(0, 0, wrong, 0, 0));
        changesNothing("putRule, size " + wrong, kind, x -> x.putRule(0, 0, 9, wrong, 0));
        changesNothing("putRule, region " + wrong, kind, x -> x.putRule(0, 0, 9, 0, wrong));
        changesNothing("except, region " + wrong, kind, x -> x.except(0, wrong));
        changesNothing("addSeller, limit " + wrong, kind, x -> x.addSeller(-1, wrong));
        changesNothing("adjust by " + wrongMoney, kind, x -> x.adjust(0, wrongMoney));
        changesNothing("addChance, amount " + wrong, kind, x -> x.addChance(0, 0, wrong));
        changesNothing("giveShare, part " + wrong, kind, x -> x.giveShare(0, 2, 1, wrong));
        changesNothing("move to " + wrong, kind, x -> x.move(0, wrong));
        changesNothing("daysIn, stage " + wrong, kind, x -> x.daysIn(0, wrong));
        changesNothing("stalled, days " + wrong, kind, x -> x.stalled(wrong));
        changesNothing("inRegion, region " + wrong, kind, x -> x.inRegion(wrong, 0));
        changesNothing("inRegion, stage " + wrong, kind, x -> x.inRegion(0, wrong));
        changesNothing("quote, discount " + wrong, kind, x -> x.quote(0, 0, wrong));
    }

    private static void wrongStates() {
        changesNothing("giveShare to itself", Check.RANGE, x -> x.giveShare(0, 2, 2, 5));
        changesNothing("giveShare of more", Check.STATE, x -> x.giveShare(0, 2, 1, 61));
        changesNothing("giveShare of a won one", Check.STATE, x -> x.giveShare(1, 1, 0, 5));
        changesNothing("giveShare of a lost one", Check.STATE, x -> x.giveShare(2, 0, 1, 5));
        changesNothing("move to the same", Check.STATE, x -> x.move(0, 1));
        changesNothing("move over one", Check.STATE, x -> x.move(0, 3));
        changesNothing("move to won", Check.STATE, x -> x.move(0, 4));
        changesNothing("move from won", Check.STATE, x -> x.move(1, 5));
        changesNothing("move from lost", Check.STATE, x -> x.move(2, 0));
        changesNothing("quote for a won one", Check.STATE, x -> x.quote(1, 0, 1));
        changesNothing("quote for a lost one", Check.STATE, x -> x.quote(2, 0, 1));
        changesNothing("approve again", Check.STATE, x -> x.approve(0, 0));
        changesNothing("approve by one without the limit", Check.STATE, x -> x.approve(1, 1));
        changesNothing("approve by its maker", Check.STATE, x -> x.approve(1, 2));
        changesNothing("approve for a lost one", Check.STATE, x -> x.approve(2, 0));
        changesNothing("counting of none", Check.NOTHING_THERE, x -> x.counting(0));
    }

    /** Where the limits are reached, an addition is refused and nothing is added. */
    private static void fullDesk() {
        SalesDesk x = new SalesDesk();
        for (int i = 0; i < 40; i++) {
            if (i < 16) {
                x.addAccount(-1, 0, 0);
            }
            if (i < 8) {
                x.addSeller(-1, 0);
                x.putRule(0, 0, 9, 0, 0);
            }
            if (i < 30) {
                x.addChance(0, 0, 1000);
            }
            if (i < 20) {
                x.freeze();
            }
            x.quote(0, 0, i);
        }
        Check.fails("a rule too many", Check.STATE, () -> x.putRule(0, 0, 9, 0, 3));
        Check.due("regionOf(0)", 0, x.regionOf(0));
        Check.due("removeRule(7)", 7, x.removeRule(7));
        Check.fails("a quote too many", Check.STATE, () -> x.quote(1, 0, 0));
        Check.fails("counting(1)", Check.NOTHING_THERE, () -> x.counting(1));
        Check.fails("a chance too many", Check.STATE, () -> x.addChance(0, 0, 1000));
        Check.due("own(0)", 3000, x.own(0));
        Check.fails("an account too many", Check.STATE, () -> x.addAccount(-1, 0, 0));
        Check.fails("regionOf(16)", Check.INDEX, () -> x.regionOf(16));
        Check.fails("a seller too many", Check.STATE, () -> x.addSeller(-1, 0));
        Check.fails("own(8)", Check.INDEX, () -> x.own(8));
        Check.fails("a freeze too many", Check.STATE, () -> x.freeze());
        Check.fails("since(20, 0)", Check.INDEX, () -> x.since(20, 0));
    }
}
