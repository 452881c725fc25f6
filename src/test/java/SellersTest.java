/** Promises 8 and 9: sellers and their adjustments. */
public final class SellersTest {
    public static void main(String[] args) {
        adding();
        limits();
        adjusting();
        Check.end();
    }

    private static void adding() {
        SalesDesk x = new SalesDesk();
        Check.fails("addSeller(0, 0) of none", Check.INDEX, () -> x.addSeller(0, 0));
        Check.fails("addSeller(-2, 100)", Check.INDEX, () -> x.addSeller(-2, 100));
        Check.fails("addSeller(-1, -1)", Check.RANGE, () -> x.addSeller(-1, -1));
        Check.fails("addSeller(-1, 100)", Check.RANGE, () -> x.addSeller(-1, 100));
        Check.fails("own(0)", Check.INDEX, () -> x.own(0));
        Check.due("addSeller(-1, 0)", 0, x.addSeller(-1, 0));
        Check.fails("addSeller(1, 0) of itself", Check.INDEX, () -> x.addSeller(1, 0));
        Check.due("addSeller(0, 99)", 1, x.addSeller(0, 99));
        for (int i = 2; i < 8; i++) {
            Check.due("addSeller", i, x.addSeller(i - 1, 50));
        }
        Check.fails("the seller 8", Check.STATE, () -> x.addSeller(-1, 0));
        Check.fails("the seller 8, wrong limit", Check.RANGE, () -> x.addSeller(-1, 100));
        Check.fails("the seller 8, wrong above", Check.INDEX, () -> x.addSeller(8, 100));
        Check.due("own(7)", 0, x.own(7));
        Check.fails("own(8)", Check.INDEX, () -> x.own(8));
    }

    private static void limits() {
        SalesDesk x = new SalesDesk();
        x.addAccount(-1, 0, 0);
        x.addSeller(-1, 99);
        x.addSeller(-1, 0);
        x.addChance(0, 0, 100);
        x.quote(0, 0, 99);
        Check.due("waiting(), the limit 99 reached", 0, x.waiting());
        x.quote(0, 1, 0);
        Check.due("waiting(), the limit 0 reached", 0, x.waiting());
        x.quote(0, 1, 1);
        Check.due("waiting(), more than the limit 0", 1, x.waiting());
    }

    private static void adjusting() {
        SalesDesk x = new SalesDesk();
        Check.fails("adjust(0, 1000001) of none", Check.INDEX, () -> x.adjust(0, 1000001));
        x.addSeller(-1, 0);
        x.addSeller(0, 0);
        Check.fails("adjust(-1, 0)", Check.INDEX, () -> x.adjust(-1, 0));
        Check.fails("adjust(2, 0)", Check.INDEX, () -> x.adjust(2, 0));
        Check.fails("adjust(0, -1000001)", Check.RANGE, () -> x.adjust(0, -1000001));
        Check.fails("adjust(0, 1000001)", Check.RANGE, () -> x.adjust(0, 1000001));
        Check.due("forecast(0)", 0, x.forecast(0));
        Check.due("adjust(0, -1000000)", 0, x.adjust(0, -1000000));
        Check.due("forecast(0)", -1000000, x.forecast(0));
        Check.due("adjust(0, 1000000)", -1000000, x.adjust(0, 1000000));
        Check.due("adjust(1, 5)", 0, x.adjust(1, 5));
        Check.due("forecast(0)", 1000005, x.forecast(0));
        Check.due("forecast(1)", 5, x.forecast(1));
        Check.due("own(0), without the adjustment", 0, x.own(0));
        Check.fails("adjust(0, 1000001)", Check.RANGE, () -> x.adjust(0, 1000001));
        Check.due("adjust(0, 7)", 1000000, x.adjust(0, 7));
        Check.due("forecast(0), set and not added", 12, x.forecast(0));
    }
}
