import java.util.function.Supplier;

/** The range of each argument: its least and its largest value, and what is thrown beyond them. */
public final class RangesTest {
    private static final Supplier<SalesDesk> MIXED = Desks.MIXED;
    private static final Supplier<SalesDesk> FULL = Desks.FULL;

    public static void main(String[] args) {
        daysAndAccounts();
        rules();
        exceptions();
        sellers();
        newChances();
        shares();
        stages();
        sums();
        quotes();
        approvals();
        forecasts();
        Check.end();
    }

    private static void daysAndAccounts() {
        Refused.range("2, days: 1 to 1000", MIXED, Check.RANGE,
                (x, days) -> x.pass(days), 1, 16, 1000, 1015);
        Refused.range("3, above: -1 or an account", MIXED, Check.INDEX,
                (x, above) -> x.addAccount(above, 0, 0), -1, 3, 2, 3);
        Refused.range("3, area: 0 to 9", MIXED, Check.RANGE,
                (x, area) -> x.addAccount(-1, area, 0), 0, 3, 9, 3);
        Refused.range("3, size: 0 to 9", MIXED, Check.RANGE,
                (x, size) -> x.addAccount(-1, 0, size), 0, 3, 9, 3);
        Refused.range("7, account", MIXED, Check.INDEX,
                (x, account) -> x.regionOf(account), 0, 3, 2, 2);
        Refused.range("7, account of 16", FULL, Check.INDEX,
                (x, account) -> x.regionOf(account), 0, 0, 15, 2);
    }

    private static void rules() {
        Refused.range("4, place: 0 to the number of rules", MIXED, Check.INDEX,
                (x, place) -> x.putRule(place, 0, 9, 0, 0), 0, 3, 2, 3);
        Refused.range("4, place: 0 alone where there is no rule", Desks.EMPTY, Check.INDEX,
                (x, place) -> x.putRule(place, 0, 9, 0, 0), 0, 1, 0, 1);
        Refused.range("4, first: 0 to 9", MIXED, Check.RANGE,
                (x, first) -> x.putRule(0, first, 9, 0, 0), 0, 3, 9, 3);
        Refused.range("4, last: first to 9", MIXED, Check.RANGE,
                (x, last) -> x.putRule(0, 4, last, 0, 0), 4, 3, 9, 3);
        Refused.range("4, last: 0 to 9 if first is 0", MIXED, Check.RANGE,
                (x, last) -> x.putRule(0, 0, last, 0, 0), 0, 3, 9, 3);
        Refused.range("4, last: 9 alone if first is 9", MIXED, Check.RANGE,
                (x, last) -> x.putRule(0, 9, last, 0, 0), 9, 3, 9, 3);
        Refused.range("4, size: 0 to 9", MIXED, Check.RANGE,
                (x, size) -> x.putRule(0, 0, 9, size, 0), 0, 3, 9, 3);
        Refused.range("4, region: 0 to 3", MIXED, Check.RANGE,
                (x, region) -> x.putRule(0, 0, 9, 0, region), 0, 3, 3, 3);
        Refused.range("5, place: from 0", MIXED, Check.INDEX,
                (x, place) -> x.removeRule(place), 0, 1, 1, 1);
        Refused.range("5, place of 8", FULL, Check.INDEX,
                (x, place) -> x.removeRule(place), 0, 7, 7, 7);
        Refused.refused("4, first and last both beyond 9", MIXED, Check.RANGE,
                x -> x.putRule(0, 10, 10, 0, 0));
        Refused.refused("4, first and last both below 0", MIXED, Check.RANGE,
                x -> x.putRule(0, -1, -1, 0, 0));
    }

    private static void exceptions() {
        Refused.range("6, account", MIXED, Check.INDEX,
                (x, account) -> x.except(account, 1), 0, 3, 2, -1);
        Refused.range("6, account of 16", FULL, Check.INDEX,
                (x, account) -> x.except(account, 1), 0, -1, 15, 2);
        Refused.range("6, region: -1 to 3", MIXED, Check.RANGE,
                (x, region) -> x.except(0, region), -1, 3, 3, 3);
        Refused.range("6, region: -1 to 3, of one with no exception", MIXED, Check.RANGE,
                (x, region) -> x.except(1, region), -1, -1, 3, -1);
    }

    private static void sellers() {
        Refused.range("8, above: -1 or a seller", MIXED, Check.INDEX,
                (x, above) -> x.addSeller(above, 0), -1, 3, 2, 3);
        Refused.range("8, limit: 0 to 99", MIXED, Check.RANGE,
                (x, limit) -> x.addSeller(-1, limit), 0, 3, 99, 3);
        Refused.range("9, seller", MIXED, Check.INDEX,
                (x, seller) -> x.adjust(seller, 1), 0, 0, 2, 0);
        Refused.range("9, seller of 8", FULL, Check.INDEX,
                (x, seller) -> x.adjust(seller, 1), 0, 0, 7, 5);
        Refused.range("9, amount: -1000000 to 1000000", MIXED, Check.RANGE,
                (x, amount) -> x.adjust(1, amount), -1000000, 17, 1000000, 17);
    }

    private static void newChances() {
        Refused.range("10, account", MIXED, Check.INDEX,
                (x, account) -> x.addChance(account, 0, 1), 0, 4, 2, 4);
        Refused.range("10, seller", MIXED, Check.INDEX,
                (x, seller) -> x.addChance(0, seller, 1), 0, 4, 2, 4);
        Refused.range("10, amount: 1 to 1000000", MIXED, Check.RANGE,
                (x, amount) -> x.addChance(0, 0, amount), 1, 4, 1000000, 4);
    }

    /** Three sellers, of whom 0 has 50 hundredths of chance 0, 1 has 30 and 2 has 20. */
    private static SalesDesk shared() {
        SalesDesk x = Desks.inStage(0);
        x.giveShare(0, 2, 0, 50);
        x.giveShare(0, 2, 1, 30);
        return x;
    }

    private static void shares() {
        Supplier<SalesDesk> shared = RangesTest::shared;
        Refused.range("11, chance", MIXED, Check.INDEX,
                (x, chance) -> x.giveShare(chance, 2, 1, 1), 0, 41, 3, 1);
        Refused.range("11, from: a seller", shared, Check.INDEX,
                (x, from) -> x.giveShare(0, from, 1, 1), 0, 31, 2, 31);
        Refused.range("11, to: another seller", shared, Check.INDEX,
                (x, to) -> x.giveShare(0, 1, to, 1), 0, 51, 2, 21);
        Refused.range("11, part: 1 to 100", MIXED, Check.RANGE,
                (x, part) -> x.giveShare(3, 2, 1, part), 1, 1, 100, 100);
        for (int seller = 0; seller <= 2; seller++) {
            int same = seller;
            Refused.refused("11, both sellers are " + same, shared, Check.RANGE,
                    x -> x.giveShare(0, same, same, 1));
        }
    }

    private static void stages() {
        Refused.range("12, chance", MIXED, Check.INDEX,
                (x, chance) -> x.move(chance, 5), 0, 2, 3, 15);
        Refused.range("12, stage: 0 to 5", MIXED, Check.RANGE,
                (x, stage) -> x.move(0, stage), 0, 2, 5, 2);
        Refused.range("13, chance", MIXED, Check.INDEX,
                (x, chance) -> x.stage(chance), 0, 1, 3, 0);
        Refused.range("13, chance of 30", FULL, Check.INDEX,
                (x, chance) -> x.stage(chance), 0, 4, 29, 0);
        Refused.range("14, chance", MIXED, Check.INDEX,
                (x, chance) -> x.daysIn(chance, 0), 0, 13, 3, 15);
        Refused.range("14, chance of 30", FULL, Check.INDEX,
                (x, chance) -> x.daysIn(chance, 0), 0, 1, 29, 100000);
        Refused.range("14, stage: 0 to 5", MIXED, Check.RANGE,
                (x, stage) -> x.daysIn(2, stage), 0, 13, 5, 2);
        Refused.range("15, days: 0 to 100000", MIXED, Check.RANGE,
                (x, days) -> x.stalled(days), 0, 2, 100000, 0);
    }

    private static void sums() {
        Refused.range("16, chance", MIXED, Check.INDEX,
                (x, chance) -> x.worth(chance), 0, 1000, 3, 1003);
        Refused.range("16, chance of 30", FULL, Check.INDEX,
                (x, chance) -> x.worth(chance), 0, 1000, 29, 730);
        Refused.range("17, region: 0 to 3", MIXED, Check.RANGE,
                (x, region) -> x.inRegion(region, 0), 0, 0, 3, 1003);
        Refused.range("17, stage: 0 to 5", MIXED, Check.RANGE,
                (x, stage) -> x.inRegion(2, stage), 0, 0, 5, 1002);
        Refused.range("18, account", MIXED, Check.INDEX,
                (x, account) -> x.won(account), 0, 900, 2, 0);
        Refused.range("18, account of 16", FULL, Check.INDEX,
                (x, account) -> x.won(account), 0, 1000, 15, 0);
    }

    private static void quotes() {
        Refused.range("19, chance", MIXED, Check.INDEX,
                (x, chance) -> x.quote(chance, 0, 1), 0, 3, 3, 3);
        Refused.range("19, seller", MIXED, Check.INDEX,
                (x, seller) -> x.quote(0, seller, 1), 0, 3, 2, 3);
        Refused.range("19, discount: 0 to 99", MIXED, Check.RANGE,
                (x, discount) -> x.quote(0, 0, discount), 0, 3, 99, 3);
        Refused.range("21, chance", FULL, Check.INDEX,
                (x, chance) -> x.counting(chance), 0, 0, 29, 29);
    }

    /** Two quotes that wait, which the sellers 0 and 1 can approve. */
    private static SalesDesk twoWaiting() {
        SalesDesk x = Desks.inStage(0);
        x.quote(0, 2, 10);
        x.quote(0, 2, 20);
        return x;
    }

    private static int approved(SalesDesk x, int quote, int seller) {
        x.approve(quote, seller);
        return x.counting(0);
    }

    private static void approvals() {
        Refused.range("20, quote", RangesTest::twoWaiting, Check.INDEX,
                (x, quote) -> approved(x, quote, 0), 0, 0, 1, 1);
        Refused.taken("20, seller, the first", RangesTest::twoWaiting, 1, x -> approved(x, 1, 0));
        Refused.taken("20, seller, the next", RangesTest::twoWaiting, 1, x -> approved(x, 1, 1));
        for (int wrong : new int[] {-1, 3, Integer.MIN_VALUE, Integer.MAX_VALUE}) {
            Refused.refused("20, seller, " + wrong + " is refused", RangesTest::twoWaiting,
                    Check.INDEX, x -> approved(x, 1, wrong));
        }
    }

    /** Eight sellers, each with a chance of a thousand times one more than the number. */
    private static SalesDesk eight() {
        SalesDesk x = Desks.chainOf(0, 0, 0, 0, 0, 0, 0, 0);
        for (int i = 0; i < 8; i++) {
            x.addChance(0, i, 1000 * (i + 1));
        }
        return x;
    }

    private static void forecasts() {
        Refused.range("23, seller", MIXED, Check.INDEX,
                (x, seller) -> x.forecast(seller), 0, 1317, 2, 280);
        Refused.range("23, seller of 8", RangesTest::eight, Check.INDEX,
                (x, seller) -> x.forecast(seller), 0, 3600, 7, 800);
        Refused.range("24, seller", MIXED, Check.INDEX,
                (x, seller) -> x.own(seller), 0, 0, 2, 280);
        Refused.range("24, seller of 8", RangesTest::eight, Check.INDEX,
                (x, seller) -> x.own(seller), 0, 100, 7, 800);
        Refused.range("26, freeze, the one there is", MIXED, Check.INDEX,
                (x, freeze) -> x.since(freeze, 1), 0, 200, 0, 200);
        Refused.range("26, freeze of 20", FULL, Check.INDEX,
                (x, freeze) -> x.since(freeze, 7), 0, 5, 19, 5);
        Refused.range("26, seller", MIXED, Check.INDEX,
                (x, seller) -> x.since(0, seller), 0, 200, 2, 120);
        Refused.range("26, seller of 8", FULL, Check.INDEX,
                (x, seller) -> x.since(19, seller), 0, 5, 7, 5);
    }
}
