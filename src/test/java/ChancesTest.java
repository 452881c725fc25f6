/** Promises 10 to 18: chances, shares, stages, worth. */
public final class ChancesTest {
    public static void main(String[] args) {
        adding();
        addingTooMany();
        sharing();
        sharingOfEnded();
        steps();
        endings();
        needingQuote();
        days();
        stalling();
        worths();
        sumsOfRegions();
        keptRegions();
        wonInTrees();
        Check.end();
    }

    /** Accounts 0, 1 below it, and 2 alone; sellers 0, with the limit 50, and 1 below, with 10. */
    private static SalesDesk desk() {
        SalesDesk x = new SalesDesk();
        x.addAccount(-1, 1, 1);
        x.addAccount(0, 2, 2);
        x.addAccount(-1, 3, 3);
        x.addSeller(-1, 50);
        x.addSeller(0, 10);
        return x;
    }

    private static void adding() {
        SalesDesk none = new SalesDesk();
        none.addSeller(-1, 0);
        Check.fails("addChance(0, 0, 0), no account", Check.INDEX, () -> none.addChance(0, 0, 0));
        SalesDesk noSeller = new SalesDesk();
        noSeller.addAccount(-1, 0, 0);
        Check.fails("addChance(0, 0, 0), no seller", Check.INDEX,
                () -> noSeller.addChance(0, 0, 0));
        SalesDesk x = desk();
        Check.fails("addChance(-1, 0, 1)", Check.INDEX, () -> x.addChance(-1, 0, 1));
        Check.fails("addChance(3, 0, 1)", Check.INDEX, () -> x.addChance(3, 0, 1));
        Check.fails("addChance(0, -1, 1)", Check.INDEX, () -> x.addChance(0, -1, 1));
        Check.fails("addChance(0, 2, 1)", Check.INDEX, () -> x.addChance(0, 2, 1));
        Check.fails("addChance(0, 2, 0)", Check.INDEX, () -> x.addChance(0, 2, 0));
        Check.fails("addChance(0, 0, 0)", Check.RANGE, () -> x.addChance(0, 0, 0));
        Check.fails("addChance(0, 0, -1)", Check.RANGE, () -> x.addChance(0, 0, -1));
        Check.fails("addChance(0, 0, 1000001)", Check.RANGE, () -> x.addChance(0, 0, 1000001));
        Check.fails("stage(0)", Check.INDEX, () -> x.stage(0));
        x.pass(5);
        Check.due("addChance(0, 1, 1)", 0, x.addChance(0, 1, 1));
        Check.due("addChance(2, 1, 1000000)", 1, x.addChance(2, 1, 1000000));
        Check.due("stage(0)", 0, x.stage(0));
        Check.due("worth(0)", 1, x.worth(0));
        Check.due("worth(1)", 1000000, x.worth(1));
        Check.due("own(1)", 100000, x.own(1));
        Check.due("own(0)", 0, x.own(0));
        Check.due("daysIn(0, 0)", 0, x.daysIn(0, 0));
    }

    private static void addingTooMany() {
        SalesDesk x = desk();
        for (int i = 0; i < 30; i++) {
            Check.due("addChance(0, 0, 10)", i, x.addChance(0, 0, 10));
        }
        Check.fails("the chance 30", Check.STATE, () -> x.addChance(0, 0, 10));
        Check.fails("the chance 30, wrong amount", Check.RANGE, () -> x.addChance(0, 0, 0));
        Check.fails("the chance 30, wrong seller", Check.INDEX, () -> x.addChance(0, 2, 0));
        Check.due("own(0)", 30, x.own(0));
        Check.fails("stage(30)", Check.INDEX, () -> x.stage(30));
        x.move(0, 5);
        Check.fails("the chance 30, one lost", Check.STATE, () -> x.addChance(0, 0, 10));
    }

    private static void sharing() {
        SalesDesk x = desk();
        Check.fails("giveShare(0, 0, 1, 0) of none", Check.INDEX, () -> x.giveShare(0, 0, 1, 0));
        x.addChance(0, 0, 10000);
        Check.fails("giveShare(-1, ..)", Check.INDEX, () -> x.giveShare(-1, 0, 1, 1));
        Check.fails("giveShare(1, ..)", Check.INDEX, () -> x.giveShare(1, 0, 1, 1));
        Check.fails("giveShare(0, -1, 1, 1)", Check.INDEX, () -> x.giveShare(0, -1, 1, 1));
        Check.fails("giveShare(0, 2, 1, 1)", Check.INDEX, () -> x.giveShare(0, 2, 1, 1));
        Check.fails("giveShare(0, 0, -1, 1)", Check.INDEX, () -> x.giveShare(0, 0, -1, 1));
        Check.fails("giveShare(0, 0, 2, 0)", Check.INDEX, () -> x.giveShare(0, 0, 2, 0));
        Check.fails("giveShare(0, 2, 2, 1)", Check.INDEX, () -> x.giveShare(0, 2, 2, 1));
        Check.fails("giveShare(0, 0, 1, 0)", Check.RANGE, () -> x.giveShare(0, 0, 1, 0));
        Check.fails("giveShare(0, 0, 1, -1)", Check.RANGE, () -> x.giveShare(0, 0, 1, -1));
        Check.fails("giveShare(0, 0, 1, 101)", Check.RANGE, () -> x.giveShare(0, 0, 1, 101));
        Check.fails("giveShare(0, 0, 0, 1)", Check.RANGE, () -> x.giveShare(0, 0, 0, 1));
        Check.fails("giveShare(0, 1, 1, 1), which has none", Check.RANGE,
                () -> x.giveShare(0, 1, 1, 1));
        Check.fails("giveShare(0, 1, 0, 1)", Check.STATE, () -> x.giveShare(0, 1, 0, 1));
        Check.fails("giveShare(0, 1, 0, 101)", Check.RANGE, () -> x.giveShare(0, 1, 0, 101));
        Check.due("own(0)", 1000, x.own(0));
        Check.due("giveShare(0, 0, 1, 30)", 30, x.giveShare(0, 0, 1, 30));
        Check.due("own(0)", 700, x.own(0));
        Check.due("own(1)", 300, x.own(1));
        Check.fails("giveShare(0, 0, 1, 71)", Check.STATE, () -> x.giveShare(0, 0, 1, 71));
        Check.due("own(0)", 700, x.own(0));
        Check.due("own(1)", 300, x.own(1));
        Check.due("giveShare(0, 0, 1, 70)", 100, x.giveShare(0, 0, 1, 70));
        Check.due("own(0)", 0, x.own(0));
        Check.due("giveShare(0, 1, 0, 100)", 100, x.giveShare(0, 1, 0, 100));
        Check.due("giveShare(0, 0, 1, 1)", 1, x.giveShare(0, 0, 1, 1));
    }

    private static void sharingOfEnded() {
        SalesDesk x = desk();
        x.addChance(0, 0, 10000);
        x.addChance(0, 0, 10000);
        winWithout(x, 0);
        x.move(1, 5);
        Check.fails("giveShare of a won one", Check.STATE, () -> x.giveShare(0, 0, 1, 1));
        Check.fails("giveShare of a lost one", Check.STATE, () -> x.giveShare(1, 0, 1, 1));
        Check.fails("giveShare of a lost one, too much", Check.RANGE,
                () -> x.giveShare(1, 0, 1, 101));
        Check.due("own(1)", 0, x.own(1));
        Check.due("own(0)", 10000, x.own(0));
    }

    /** Wins a chance from stage 0, with a quote that takes nothing off. */
    private static void winWithout(SalesDesk x, int chance) {
        x.quote(chance, 0, 0);
        for (int stage = 1; stage <= 4; stage++) {
            x.move(chance, stage);
        }
    }

    /** A desk whose one chance has a quote and is in a stage. */
    private static SalesDesk deskIn(int stage) {
        SalesDesk x = desk();
        x.addChance(0, 0, 100);
        x.quote(0, 0, 0);
        int last = stage == 5 ? 0 : stage;
        for (int next = 1; next <= last; next++) {
            x.move(0, next);
        }
        if (stage == 5) {
            x.move(0, 5);
        }
        return x;
    }

    private static void steps() {
        SalesDesk none = new SalesDesk();
        Check.fails("move(0, 6) of none", Check.INDEX, () -> none.move(0, 6));
        // A row for each stage: 1 where it can come to the stage of the column.
        int[][] can = {
            {0, 1, 0, 0, 0, 1},
            {1, 0, 1, 0, 0, 1},
            {1, 1, 0, 1, 0, 1},
            {1, 1, 1, 0, 1, 1},
            {0, 0, 0, 0, 0, 0},
            {0, 0, 0, 0, 0, 0},
        };
        for (int from = 0; from <= 5; from++) {
            for (int to = 0; to <= 5; to++) {
                SalesDesk x = deskIn(from);
                String call = "move from " + from + " to " + to;
                int stage = to;
                if (can[from][to] == 1) {
                    Check.due(call, 0, x.move(0, stage));
                } else {
                    Check.fails(call, Check.STATE, () -> x.move(0, stage));
                }
                Check.due("stage(0) after " + call, can[from][to] == 1 ? to : from, x.stage(0));
            }
            SalesDesk x = deskIn(from);
            Check.fails("move(0, 6)", Check.RANGE, () -> x.move(0, 6));
            Check.fails("move(0, -1)", Check.RANGE, () -> x.move(0, -1));
            Check.fails("move(1, 6)", Check.INDEX, () -> x.move(1, 6));
            Check.fails("move(-1, 1)", Check.INDEX, () -> x.move(-1, 1));
            Check.fails("stage(-1)", Check.INDEX, () -> x.stage(-1));
            Check.fails("stage(1)", Check.INDEX, () -> x.stage(1));
            Check.due("stage(0)", from, x.stage(0));
        }
    }

    private static void endings() {
        SalesDesk x = deskIn(3);
        x.pass(3);
        Check.due("move(0, 4)", 3, x.move(0, 4));
        x.pass(2);
        Check.fails("move(0, 5) of a won one", Check.STATE, () -> x.move(0, 5));
        Check.due("daysIn(0, 4), up to now", 2, x.daysIn(0, 4));
        Check.due("daysIn(0, 5)", 0, x.daysIn(0, 5));
    }

    private static void needingQuote() {
        SalesDesk x = desk();
        x.addChance(0, 1, 100);
        x.addChance(0, 1, 100);
        x.move(0, 1);
        x.move(0, 2);
        x.quote(1, 1, 0);
        Check.fails("move(0, 3) with no quote of its own", Check.STATE, () -> x.move(0, 3));
        x.quote(0, 1, 11);
        Check.fails("move(0, 3) with one that waits", Check.STATE, () -> x.move(0, 3));
        Check.due("stage(0)", 2, x.stage(0));
        x.approve(1, 0);
        Check.due("move(0, 3)", 0, x.move(0, 3));
        Check.due("move(0, 0)", 0, x.move(0, 0));
        x.move(0, 1);
        x.move(0, 2);
        Check.due("move(0, 3) again, the quote still counts", 0, x.move(0, 3));
    }

    private static void days() {
        SalesDesk x = desk();
        x.pass(100);
        x.addChance(0, 0, 100);
        Check.fails("daysIn(1, 6)", Check.INDEX, () -> x.daysIn(1, 6));
        Check.fails("daysIn(-1, 0)", Check.INDEX, () -> x.daysIn(-1, 0));
        Check.fails("daysIn(0, 6)", Check.RANGE, () -> x.daysIn(0, 6));
        Check.fails("daysIn(0, -1)", Check.RANGE, () -> x.daysIn(0, -1));
        x.pass(10);
        Check.due("daysIn(0, 0), not from day 0", 10, x.daysIn(0, 0));
        Check.due("move(0, 1)", 10, x.move(0, 1));
        Check.due("daysIn(0, 0)", 10, x.daysIn(0, 0));
        Check.due("daysIn(0, 1)", 0, x.daysIn(0, 1));
        x.pass(4);
        Check.fails("move(0, 3)", Check.STATE, () -> x.move(0, 3));
        Check.due("daysIn(0, 1) after a move that threw", 4, x.daysIn(0, 1));
        Check.due("move(0, 0)", 4, x.move(0, 0));
        x.pass(7);
        Check.due("daysIn(0, 0), both times", 17, x.daysIn(0, 0));
        Check.due("move(0, 1), this time only", 7, x.move(0, 1));
        x.pass(1);
        Check.due("daysIn(0, 1), both times", 5, x.daysIn(0, 1));
        Check.due("move(0, 5)", 1, x.move(0, 5));
        x.pass(1000);
        Check.due("daysIn(0, 5)", 1000, x.daysIn(0, 5));
        Check.due("daysIn(0, 1)", 5, x.daysIn(0, 1));
        Check.due("daysIn(0, 0)", 17, x.daysIn(0, 0));
        Check.due("daysIn(0, 3)", 0, x.daysIn(0, 3));
    }

    private static void stalling() {
        SalesDesk x = desk();
        Check.fails("stalled(-1)", Check.RANGE, () -> x.stalled(-1));
        Check.fails("stalled(100001)", Check.RANGE, () -> x.stalled(100001));
        Check.due("stalled(100000)", 0, x.stalled(100000));
        x.addChance(0, 0, 100);
        x.addChance(0, 0, 100);
        x.addChance(0, 0, 100);
        Check.due("stalled(0) on the day", 0, x.stalled(0));
        x.pass(1);
        Check.due("stalled(0)", 3, x.stalled(0));
        Check.due("stalled(1)", 0, x.stalled(1));
        x.move(0, 1);
        Check.due("stalled(0), one moved", 2, x.stalled(0));
        x.pass(4);
        Check.due("stalled(4)", 2, x.stalled(4));
        Check.due("stalled(3)", 3, x.stalled(3));
        x.move(0, 0);
        x.pass(1);
        Check.due("stalled(1), this time only", 2, x.stalled(1));
        x.move(1, 5);
        winWithout(x, 2);
        x.pass(50);
        Check.due("stalled(0), two ended", 1, x.stalled(0));
    }

    private static void worths() {
        SalesDesk x = desk();
        Check.fails("worth(0)", Check.INDEX, () -> x.worth(0));
        x.addChance(0, 0, 999);
        Check.fails("worth(1)", Check.INDEX, () -> x.worth(1));
        Check.fails("worth(-1)", Check.INDEX, () -> x.worth(-1));
        Check.due("worth(0)", 999, x.worth(0));
        x.quote(0, 1, 11);
        Check.due("worth(0), the quote waits", 999, x.worth(0));
        x.quote(0, 0, 1);
        Check.due("worth(0) rounds down 989.01", 989, x.worth(0));
        x.quote(0, 0, 50);
        Check.due("worth(0) rounds down 499.5", 499, x.worth(0));
        x.approve(0, 0);
        Check.due("worth(0) rounds down 889.11", 889, x.worth(0));
        x.addChance(0, 0, 1);
        x.quote(1, 0, 1);
        Check.due("worth(1)", 0, x.worth(1));
        x.addSeller(-1, 99);
        x.addChance(0, 0, 1000000);
        x.quote(2, 2, 99);
        Check.due("worth(2)", 10000, x.worth(2));
        x.move(2, 5);
        Check.due("worth(2), lost", 10000, x.worth(2));
    }

    private static void sumsOfRegions() {
        SalesDesk x = desk();
        Check.fails("inRegion(-1, 0)", Check.RANGE, () -> x.inRegion(-1, 0));
        Check.fails("inRegion(4, 0)", Check.RANGE, () -> x.inRegion(4, 0));
        Check.fails("inRegion(0, -1)", Check.RANGE, () -> x.inRegion(0, -1));
        Check.fails("inRegion(0, 6)", Check.RANGE, () -> x.inRegion(0, 6));
        x.except(0, 2);
        x.addChance(0, 0, 100);
        x.addChance(1, 0, 20);
        x.addChance(2, 0, 3);
        Check.due("inRegion(2, 0)", 120, x.inRegion(2, 0));
        Check.due("inRegion(0, 0)", 3, x.inRegion(0, 0));
        Check.due("inRegion(1, 0)", 0, x.inRegion(1, 0));
        x.except(1, 3);
        Check.due("inRegion(2, 0)", 100, x.inRegion(2, 0));
        Check.due("inRegion(3, 0)", 20, x.inRegion(3, 0));
        x.move(0, 1);
        Check.due("inRegion(2, 0)", 0, x.inRegion(2, 0));
        Check.due("inRegion(2, 1)", 100, x.inRegion(2, 1));
        x.quote(0, 0, 25);
        Check.due("inRegion(2, 1), the worth", 75, x.inRegion(2, 1));
    }

    private static void keptRegions() {
        SalesDesk x = desk();
        x.except(0, 1);
        x.addChance(0, 0, 100);
        x.addChance(0, 0, 20);
        x.addChance(0, 0, 3);
        x.except(0, 2);
        winWithout(x, 0);
        x.except(0, 3);
        x.move(1, 5);
        x.except(0, 0);
        Check.due("inRegion(2, 4), as it was when won", 100, x.inRegion(2, 4));
        Check.due("inRegion(3, 5), as it was when lost", 20, x.inRegion(3, 5));
        Check.due("inRegion(0, 0), open", 3, x.inRegion(0, 0));
        Check.due("inRegion(0, 4)", 0, x.inRegion(0, 4));
        Check.due("inRegion(0, 5)", 0, x.inRegion(0, 5));
        x.except(0, -1);
        x.putRule(0, 0, 9, 0, 1);
        Check.due("inRegion(1, 0), by the new rule", 3, x.inRegion(1, 0));
        Check.due("inRegion(2, 4)", 100, x.inRegion(2, 4));
    }

    private static void wonInTrees() {
        SalesDesk x = desk();
        x.addAccount(1, 0, 0);
        x.addChance(0, 0, 1000);
        x.addChance(1, 0, 200);
        x.addChance(3, 0, 30);
        x.addChance(2, 0, 4);
        x.addChance(3, 0, 10000);
        Check.fails("won(-1)", Check.INDEX, () -> x.won(-1));
        Check.fails("won(4)", Check.INDEX, () -> x.won(4));
        Check.due("won(0)", 0, x.won(0));
        for (int chance = 0; chance < 4; chance++) {
            winWithout(x, chance);
        }
        x.move(4, 5);
        Check.due("won(0)", 1230, x.won(0));
        Check.due("won(1)", 230, x.won(1));
        Check.due("won(3)", 30, x.won(3));
        Check.due("won(2)", 4, x.won(2));
        x.addChance(0, 0, 100);
        x.quote(5, 0, 33);
        for (int stage = 1; stage <= 3; stage++) {
            x.move(5, stage);
        }
        Check.due("won(0), one not yet", 1230, x.won(0));
        x.move(5, 4);
        Check.due("won(0), the worth", 1297, x.won(0));
    }
}
