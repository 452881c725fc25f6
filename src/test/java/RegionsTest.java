/** Promises 1 to 7: the new desk, days, accounts and regions. */
public final class RegionsTest {
    public static void main(String[] args) {
        newDesk();
        passing();
        lastDay();
        addingAccounts();
        puttingRules();
        removingRules();
        exceptions();
        regions();
        regionsOfTrees();
        Check.end();
    }

    private static void newDesk() {
        SalesDesk x = new SalesDesk();
        Check.due("waiting()", 0, x.waiting());
        Check.due("stalled(0)", 0, x.stalled(0));
        for (int region = 0; region <= 3; region++) {
            for (int stage = 0; stage <= 5; stage++) {
                Check.due("inRegion of a new desk", 0, x.inRegion(region, stage));
            }
        }
        Check.fails("regionOf(0)", Check.INDEX, () -> x.regionOf(0));
        Check.fails("own(0)", Check.INDEX, () -> x.own(0));
        Check.fails("forecast(0)", Check.INDEX, () -> x.forecast(0));
        Check.fails("stage(0)", Check.INDEX, () -> x.stage(0));
        Check.fails("removeRule(0)", Check.INDEX, () -> x.removeRule(0));
        Check.fails("since(0, 0)", Check.INDEX, () -> x.since(0, 0));
        Check.due("pass(1) on day 0", 1, x.pass(1));
        SalesDesk other = new SalesDesk();
        other.addAccount(-1, 0, 0);
        Check.fails("regionOf(0) after another desk's addAccount", Check.INDEX, () -> x.regionOf(0));
    }

    private static void passing() {
        SalesDesk x = new SalesDesk();
        Check.fails("pass(0)", Check.RANGE, () -> x.pass(0));
        Check.fails("pass(-1)", Check.RANGE, () -> x.pass(-1));
        Check.fails("pass(1001)", Check.RANGE, () -> x.pass(1001));
        Check.fails("pass(least int)", Check.RANGE, () -> x.pass(Integer.MIN_VALUE));
        Check.fails("pass(most int)", Check.RANGE, () -> x.pass(Integer.MAX_VALUE));
        Check.due("pass(1)", 1, x.pass(1));
        Check.due("pass(1000)", 1001, x.pass(1000));
        Check.due("pass(7)", 1008, x.pass(7));
    }

    private static void lastDay() {
        SalesDesk x = new SalesDesk();
        for (int i = 1; i <= 99; i++) {
            Check.due("pass(1000)", i * 1000, x.pass(1000));
        }
        Check.due("pass(999)", 99999, x.pass(999));
        Check.fails("pass(2) on day 99999", Check.STATE, () -> x.pass(2));
        Check.fails("pass(1001) on day 99999", Check.RANGE, () -> x.pass(1001));
        Check.due("pass(1) to day 100000", 100000, x.pass(1));
        Check.fails("pass(1) on day 100000", Check.STATE, () -> x.pass(1));
        Check.fails("pass(0) on day 100000", Check.RANGE, () -> x.pass(0));
    }

    private static void addingAccounts() {
        SalesDesk x = new SalesDesk();
        Check.fails("addAccount(0, 0, 0) of none", Check.INDEX, () -> x.addAccount(0, 0, 0));
        Check.fails("addAccount(-2, 10, 10)", Check.INDEX, () -> x.addAccount(-2, 10, 10));
        Check.fails("addAccount(-1, -1, 0)", Check.RANGE, () -> x.addAccount(-1, -1, 0));
        Check.fails("addAccount(-1, 10, 0)", Check.RANGE, () -> x.addAccount(-1, 10, 0));
        Check.fails("addAccount(-1, 0, -1)", Check.RANGE, () -> x.addAccount(-1, 0, -1));
        Check.fails("addAccount(-1, 0, 10)", Check.RANGE, () -> x.addAccount(-1, 0, 10));
        Check.fails("regionOf(0)", Check.INDEX, () -> x.regionOf(0));
        Check.due("addAccount(-1, 0, 0)", 0, x.addAccount(-1, 0, 0));
        Check.fails("addAccount(1, 0, 0) of itself", Check.INDEX, () -> x.addAccount(1, 0, 0));
        Check.due("addAccount(0, 9, 9)", 1, x.addAccount(0, 9, 9));
        for (int i = 2; i < 16; i++) {
            Check.due("addAccount(-1, 9, 9)", i, x.addAccount(-1, 9, 9));
        }
        Check.fails("the account 16", Check.STATE, () -> x.addAccount(-1, 0, 0));
        Check.fails("the account 16, wrong area", Check.RANGE, () -> x.addAccount(-1, 10, 0));
        Check.fails("the account 16, wrong size", Check.RANGE, () -> x.addAccount(-1, 0, 10));
        Check.fails("the account 16, wrong above", Check.INDEX, () -> x.addAccount(16, 0, 0));
        Check.due("regionOf(15)", 0, x.regionOf(15));
        Check.fails("regionOf(16)", Check.INDEX, () -> x.regionOf(16));
    }

    private static void puttingRules() {
        SalesDesk x = new SalesDesk();
        x.addAccount(-1, 5, 5);
        Check.fails("putRule(-1, ..)", Check.INDEX, () -> x.putRule(-1, 0, 9, 0, 1));
        Check.fails("putRule(1, ..) of none", Check.INDEX, () -> x.putRule(1, 0, 9, 0, 1));
        Check.fails("wrong place and areas", Check.INDEX, () -> x.putRule(1, 10, 0, 10, 4));
        Check.fails("first -1", Check.RANGE, () -> x.putRule(0, -1, 9, 0, 1));
        Check.fails("first 10", Check.RANGE, () -> x.putRule(0, 10, 10, 0, 1));
        Check.fails("last before first", Check.RANGE, () -> x.putRule(0, 5, 4, 0, 1));
        Check.fails("last 10", Check.RANGE, () -> x.putRule(0, 0, 10, 0, 1));
        Check.fails("size -1", Check.RANGE, () -> x.putRule(0, 0, 9, -1, 1));
        Check.fails("size 10", Check.RANGE, () -> x.putRule(0, 0, 9, 10, 1));
        Check.fails("region -1", Check.RANGE, () -> x.putRule(0, 0, 9, 0, -1));
        Check.fails("region 4", Check.RANGE, () -> x.putRule(0, 0, 9, 0, 4));
        Check.due("regionOf(0) with no rule", 0, x.regionOf(0));
        Check.fails("removeRule(0) with no rule", Check.INDEX, () -> x.removeRule(0));
        Check.due("putRule(0, 0, 9, 0, 1)", 1, x.putRule(0, 0, 9, 0, 1));
        Check.due("regionOf(0)", 1, x.regionOf(0));
        Check.due("a rule at the end", 2, x.putRule(1, 0, 9, 0, 2));
        Check.due("regionOf(0), the first rule fits", 1, x.regionOf(0));
        Check.due("a rule in between", 3, x.putRule(1, 0, 9, 0, 3));
        Check.due("removeRule(0)", 2, x.removeRule(0));
        Check.due("regionOf(0), the one between moved up", 3, x.regionOf(0));
        for (int i = 3; i <= 8; i++) {
            Check.due("putRule(0, 9, 9, 9, 0)", i, x.putRule(0, 9, 9, 9, 0));
        }
        Check.fails("the ninth rule", Check.STATE, () -> x.putRule(0, 5, 5, 0, 2));
        Check.fails("the ninth rule at 8", Check.STATE, () -> x.putRule(8, 5, 5, 0, 2));
        Check.fails("the ninth rule at 9", Check.INDEX, () -> x.putRule(9, 5, 5, 0, 2));
        Check.fails("the ninth rule, wrong region", Check.RANGE, () -> x.putRule(8, 5, 5, 0, 4));
        Check.due("regionOf(0) after the ninth", 3, x.regionOf(0));
        Check.due("removeRule(7)", 7, x.removeRule(7));
    }

    private static void removingRules() {
        SalesDesk x = new SalesDesk();
        x.addAccount(-1, 5, 5);
        x.putRule(0, 5, 5, 5, 1);
        x.putRule(1, 5, 5, 5, 2);
        x.putRule(2, 5, 5, 5, 3);
        Check.fails("removeRule(3)", Check.INDEX, () -> x.removeRule(3));
        Check.fails("removeRule(-1)", Check.INDEX, () -> x.removeRule(-1));
        Check.due("removeRule(1)", 2, x.removeRule(1));
        Check.due("regionOf(0)", 1, x.regionOf(0));
        Check.due("removeRule(0)", 1, x.removeRule(0));
        Check.due("regionOf(0)", 3, x.regionOf(0));
        Check.due("removeRule(0)", 0, x.removeRule(0));
        Check.due("regionOf(0)", 0, x.regionOf(0));
        Check.fails("removeRule(0)", Check.INDEX, () -> x.removeRule(0));
    }

    private static void exceptions() {
        SalesDesk x = new SalesDesk();
        Check.fails("except(0, 4) of none", Check.INDEX, () -> x.except(0, 4));
        x.addAccount(-1, 1, 1);
        Check.fails("except(-1, 0)", Check.INDEX, () -> x.except(-1, 0));
        Check.fails("except(0, -2)", Check.RANGE, () -> x.except(0, -2));
        Check.fails("except(0, 4)", Check.RANGE, () -> x.except(0, 4));
        Check.due("except(0, 3)", -1, x.except(0, 3));
        Check.due("regionOf(0)", 3, x.regionOf(0));
        Check.fails("except(0, 4)", Check.RANGE, () -> x.except(0, 4));
        Check.due("except(0, 0)", 3, x.except(0, 0));
        Check.due("except(0, -1)", 0, x.except(0, -1));
        Check.due("except(0, -1)", -1, x.except(0, -1));
        Check.due("regionOf(0)", 0, x.regionOf(0));
    }

    private static void regions() {
        SalesDesk x = new SalesDesk();
        x.addAccount(-1, 4, 6);
        Check.fails("regionOf(-1)", Check.INDEX, () -> x.regionOf(-1));
        Check.fails("regionOf(1)", Check.INDEX, () -> x.regionOf(1));
        x.putRule(0, 4, 4, 6, 1);
        Check.due("all bounds just reached", 1, x.regionOf(0));
        x.removeRule(0);
        x.putRule(0, 4, 9, 7, 1);
        Check.due("the size is too small", 0, x.regionOf(0));
        x.putRule(1, 5, 9, 0, 1);
        Check.due("the area is too low", 0, x.regionOf(0));
        x.putRule(2, 0, 3, 0, 1);
        Check.due("the area is too high", 0, x.regionOf(0));
        x.putRule(3, 0, 9, 0, 2);
        Check.due("a later rule fits", 2, x.regionOf(0));
        x.putRule(3, 3, 5, 5, 3);
        Check.due("the first that fits", 3, x.regionOf(0));
        x.except(0, 0);
        Check.due("an exception goes before the rules, 0 too", 0, x.regionOf(0));
        x.except(0, -1);
        Check.due("no exception", 3, x.regionOf(0));
    }

    private static void regionsOfTrees() {
        SalesDesk x = new SalesDesk();
        x.addAccount(-1, 1, 1);
        x.addAccount(0, 2, 2);
        x.addAccount(1, 3, 3);
        x.addAccount(-1, 3, 1);
        x.except(0, 3);
        Check.due("regionOf(2), from two above", 3, x.regionOf(2));
        Check.due("regionOf(3), none above", 0, x.regionOf(3));
        x.putRule(0, 2, 2, 0, 1);
        Check.due("regionOf(2), from the one above", 1, x.regionOf(2));
        x.putRule(1, 3, 3, 3, 0);
        Check.due("regionOf(2), its own rule, to region 0", 0, x.regionOf(2));
        Check.due("regionOf(3), too small for the rule", 0, x.regionOf(3));
        x.except(1, 2);
        x.removeRule(1);
        Check.due("regionOf(2), the exception of the one above", 2, x.regionOf(2));
        x.except(0, -1);
        x.except(1, -1);
        x.removeRule(0);
        Check.due("regionOf(2), nothing", 0, x.regionOf(2));
    }
}
