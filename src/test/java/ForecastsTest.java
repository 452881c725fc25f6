/** Promises 23 to 26: forecasts in layers, freezes and growth. */
public final class ForecastsTest {
    public static void main(String[] args) {
        weights();
        rounding();
        layers();
        freezing();
        growing();
        laterSellers();
        highest();
        Check.end();
    }

    private static SalesDesk desk(int sellers) {
        SalesDesk x = new SalesDesk();
        x.addAccount(-1, 0, 0);
        for (int i = 0; i < sellers; i++) {
            x.addSeller(i - 1, 99 - i);
        }
        return x;
    }

    private static void weights() {
        SalesDesk x = desk(1);
        Check.fails("own(-1)", Check.INDEX, () -> x.own(-1));
        Check.fails("own(1)", Check.INDEX, () -> x.own(1));
        Check.due("own(0)", 0, x.own(0));
        x.addChance(0, 0, 1000);
        x.quote(0, 0, 0);
        int[] due = {100, 300, 600, 900, 1000};
        for (int stage = 0; stage <= 4; stage++) {
            if (stage > 0) {
                x.move(0, stage);
            }
            Check.due("own(0) in stage " + stage, due[stage], x.own(0));
            Check.due("forecast(0) in stage " + stage, due[stage], x.forecast(0));
        }
        x.addChance(0, 0, 500);
        Check.due("own(0) of two", 1050, x.own(0));
        x.move(1, 5);
        Check.due("own(0), one lost", 1000, x.own(0));
    }

    private static void rounding() {
        SalesDesk x = desk(2);
        x.addChance(0, 0, 199);
        x.addChance(0, 0, 199);
        Check.due("own(0), each 19.9 rounded down", 38, x.own(0));
        x.giveShare(0, 0, 1, 50);
        Check.due("own(1), 99.5 to 99 to 9", 9, x.own(1));
        Check.due("own(0)", 28, x.own(0));
        x.addChance(0, 1, 101);
        x.giveShare(2, 1, 0, 1);
        Check.due("own(1), 99.99 rounded down before the weight", 18, x.own(1));
        x.quote(2, 1, 50);
        Check.due("own(1), 50.5 to 50 to 49 to 4", 13, x.own(1));
        x.move(2, 1);
        Check.due("own(1), 49 to 14", 23, x.own(1));
    }

    private static void layers() {
        SalesDesk x = new SalesDesk();
        x.addAccount(-1, 0, 0);
        x.addSeller(-1, 0);
        x.addSeller(0, 0);
        x.addSeller(0, 0);
        x.addSeller(1, 0);
        x.addSeller(-1, 0);
        for (int seller = 0; seller < 5; seller++) {
            x.addChance(0, seller, 10 * (int) Math.pow(10, seller));
        }
        Check.fails("forecast(-1)", Check.INDEX, () -> x.forecast(-1));
        Check.fails("forecast(5)", Check.INDEX, () -> x.forecast(5));
        Check.due("forecast(0)", 1111, x.forecast(0));
        Check.due("forecast(1)", 1010, x.forecast(1));
        Check.due("forecast(2)", 100, x.forecast(2));
        Check.due("forecast(3)", 1000, x.forecast(3));
        Check.due("forecast(4)", 10000, x.forecast(4));
        Check.due("own(0)", 1, x.own(0));
        x.adjust(3, -2000);
        x.adjust(1, 7);
        Check.due("forecast(3), below 0", -1000, x.forecast(3));
        Check.due("forecast(1), both adjustments", -983, x.forecast(1));
        Check.due("forecast(0), both adjustments", -882, x.forecast(0));
        Check.due("forecast(2)", 100, x.forecast(2));
        Check.due("own(3)", 1000, x.own(3));
    }

    private static void freezing() {
        SalesDesk x = desk(1);
        for (int i = 0; i < 20; i++) {
            Check.due("freeze()", i, x.freeze());
            x.adjust(0, i + 1);
        }
        Check.fails("the freeze 20", Check.STATE, () -> x.freeze());
        for (int i = 0; i < 20; i++) {
            Check.due("since(" + i + ", 0)", 20 - i, x.since(i, 0));
        }
        Check.fails("since(20, 0)", Check.INDEX, () -> x.since(20, 0));
        SalesDesk none = new SalesDesk();
        Check.due("freeze() with no seller", 0, none.freeze());
        Check.fails("since(0, 0) with no seller", Check.INDEX, () -> none.since(0, 0));
    }

    private static void growing() {
        SalesDesk x = desk(2);
        Check.fails("since(0, 0), no freeze", Check.INDEX, () -> x.since(0, 0));
        x.addChance(0, 1, 1000);
        x.adjust(1, 5);
        Check.due("freeze()", 0, x.freeze());
        Check.fails("since(-1, 0)", Check.INDEX, () -> x.since(-1, 0));
        Check.fails("since(1, 0)", Check.INDEX, () -> x.since(1, 0));
        Check.fails("since(0, -1)", Check.INDEX, () -> x.since(0, -1));
        Check.fails("since(0, 2)", Check.INDEX, () -> x.since(0, 2));
        Check.due("since(0, 0)", 0, x.since(0, 0));
        x.move(0, 1);
        Check.due("since(0, 0)", 200, x.since(0, 0));
        Check.due("since(0, 1)", 200, x.since(0, 1));
        Check.due("freeze()", 1, x.freeze());
        x.adjust(1, 6);
        x.adjust(0, -50);
        Check.due("since(0, 0)", 151, x.since(0, 0));
        Check.due("since(1, 0)", -49, x.since(1, 0));
        Check.due("since(1, 1)", 1, x.since(1, 1));
        x.move(0, 5);
        Check.due("since(0, 1)", -99, x.since(0, 1));
        x.pass(1000);
        Check.due("since(0, 1), days alone change nothing", -99, x.since(0, 1));
    }

    private static void laterSellers() {
        SalesDesk x = desk(1);
        x.adjust(0, 30);
        x.freeze();
        x.addSeller(0, 0);
        Check.due("since(0, 1)", 0, x.since(0, 1));
        x.adjust(1, 12);
        Check.due("since(0, 1), from 0", 12, x.since(0, 1));
        Check.due("since(0, 0)", 12, x.since(0, 0));
        x.freeze();
        x.adjust(1, 10);
        Check.due("since(1, 1)", -2, x.since(1, 1));
        Check.due("since(0, 1)", 10, x.since(0, 1));
    }

    private static void highest() {
        SalesDesk x = desk(8);
        x.freeze();
        for (int i = 0; i < 30; i++) {
            x.addChance(0, 7, 1000000);
            x.quote(i, 0, 0);
            for (int stage = 1; stage <= 4; stage++) {
                x.move(i, stage);
            }
        }
        for (int i = 0; i < 8; i++) {
            x.adjust(i, 1000000);
        }
        Check.due("own(7)", 30000000, x.own(7));
        Check.due("forecast(0)", 38000000, x.forecast(0));
        Check.due("since(0, 0)", 38000000, x.since(0, 0));
        Check.due("inRegion(0, 4)", 30000000, x.inRegion(0, 4));
        Check.due("won(0)", 30000000, x.won(0));
    }
}
