import java.util.function.Supplier;

/** The counts at which a call is refused: the call that fills a row, and the one after it. */
public final class CountsTest {
    private static final Supplier<SalesDesk> ALMOST = Desks.ALMOST_FULL;
    private static final Supplier<SalesDesk> FULL = Desks.FULL;

    public static void main(String[] args) {
        fillingUp();
        oneTooMany();
        rulesAgain();
        nothingIsFreed();
        refusedOnesDoNotCount();
        eachRowByItself();
        lastOnesWork();
        lastDay();
        calls();
        Check.end();
    }

    private static void fillingUp() {
        Check.sentence("each is numbered from 0 on, until there are as many as can be", () -> {
            SalesDesk x = new SalesDesk();
            for (int i = 0; i < 16; i++) {
                Check.due("account", i, x.addAccount(-1, 0, 0));
            }
            for (int i = 0; i < 8; i++) {
                Check.due("seller", i, x.addSeller(-1, 50));
                Check.due("rules then", i + 1, x.putRule(i, 0, 9, 0, 0));
            }
            for (int i = 0; i < 30; i++) {
                Check.due("chance", i, x.addChance(15, 7, 1));
            }
            for (int i = 0; i < 40; i++) {
                Check.due("quote", i, x.quote(29, 7, i));
            }
            for (int i = 0; i < 20; i++) {
                Check.due("freeze", i, x.freeze());
            }
        });
        Refused.taken("3, the account 15", ALMOST, 15, x -> x.addAccount(-1, 0, 0));
        Refused.taken("4, the rule that makes eight, first", ALMOST, 8,
                x -> x.putRule(0, 0, 9, 0, 0));
        Refused.taken("4, the rule that makes eight, last", ALMOST, 8,
                x -> x.putRule(7, 0, 9, 0, 0));
        Refused.taken("8, the seller 7", ALMOST, 7, x -> x.addSeller(-1, 0));
        Refused.taken("10, the chance 29", ALMOST, 29, x -> x.addChance(0, 0, 1));
        Refused.taken("19, the quote 39", ALMOST, 39, x -> x.quote(2, 0, 0));
        Refused.taken("25, the freeze 19", ALMOST, 19, x -> x.freeze());
    }

    private static void oneTooMany() {
        Refused.refused("3, if there are 16", FULL, Check.STATE, x -> x.addAccount(-1, 0, 0));
        Refused.refused("3, if there are 16, below one", FULL, Check.STATE,
                x -> x.addAccount(15, 9, 9));
        Refused.refused("4, if there are 8, at 0", FULL, Check.STATE,
                x -> x.putRule(0, 0, 9, 0, 0));
        Refused.refused("4, if there are 8, at 7", FULL, Check.STATE,
                x -> x.putRule(7, 0, 9, 0, 0));
        Refused.refused("4, if there are 8, at 8", FULL, Check.STATE,
                x -> x.putRule(8, 0, 9, 0, 0));
        Refused.refused("8, if there are 8", FULL, Check.STATE, x -> x.addSeller(-1, 0));
        Refused.refused("8, if there are 8, below one", FULL, Check.STATE, x -> x.addSeller(7, 99));
        Refused.refused("10, if there are 30", FULL, Check.STATE, x -> x.addChance(0, 0, 1));
        Refused.refused("10, if there are 30, the last account and seller", FULL, Check.STATE,
                x -> x.addChance(15, 7, 1000000));
        Refused.refused("19, or 40 were made", FULL, Check.STATE, x -> x.quote(2, 0, 0));
        Refused.refused("19, or 40 were made, one that would wait", FULL, Check.STATE,
                x -> x.quote(29, 7, 99));
        Refused.refused("25, if 20 were made", FULL, Check.STATE, x -> x.freeze());
    }

    private static void rulesAgain() {
        Check.sentence("4, the rules that there are count, not those that there were", () -> {
            SalesDesk x = FULL.get();
            for (int i = 0; i < 20; i++) {
                Check.due("removeRule", 7, x.removeRule(i % 8));
                Check.due("putRule", 8, x.putRule(i % 8, 0, 9, 0, 0));
            }
            Check.fails("the ninth", Check.STATE, () -> x.putRule(0, 0, 9, 0, 0));
        });
    }

    /** Full, and all chances have ended. */
    private static SalesDesk fullOfEnded() {
        SalesDesk x = FULL.get();
        for (int chance = 2; chance < 30; chance++) {
            x.move(chance, 5);
        }
        return x;
    }

    private static void nothingIsFreed() {
        Refused.refused("10, chances that are won or lost are there too",
                CountsTest::fullOfEnded, Check.STATE, x -> x.addChance(0, 0, 1));
        Check.sentence("19, quotes of chances that are won or lost were made too", () -> {
            SalesDesk x = Desks.chainOf(50);
            x.addChance(0, 0, 100);
            x.addChance(0, 0, 100);
            x.addChance(0, 0, 100);
            for (int i = 0; i < 20; i++) {
                Check.due("quote", 2 * i, x.quote(0, 0, 0));
                Check.due("quote", 2 * i + 1, x.quote(1, 0, 60));
            }
            Desks.bring(x, 1, 5);
            for (int stage = 1; stage <= 4; stage++) {
                x.move(0, stage);
            }
            Check.fails("the quote 40", Check.STATE, () -> x.quote(2, 0, 0));
        });
    }

    private static void refusedOnesDoNotCount() {
        Check.sentence("a call that throws changes nothing, so it takes no room", () -> {
            SalesDesk x = Desks.MIXED.get();
            for (int i = 0; i < 20; i++) {
                Check.fails("account", Check.RANGE, () -> x.addAccount(-1, 10, 0));
                Check.fails("rule", Check.RANGE, () -> x.putRule(0, 0, 9, 0, 4));
                Check.fails("seller", Check.RANGE, () -> x.addSeller(-1, 100));
                Check.fails("chance", Check.RANGE, () -> x.addChance(0, 0, 0));
                Check.fails("chance", Check.INDEX, () -> x.addChance(0, 3, 1));
                Check.fails("quote", Check.RANGE, () -> x.quote(0, 0, 100));
                Check.fails("quote", Check.STATE, () -> x.quote(1, 0, 0));
            }
            for (int i = 3; i < 16; i++) {
                Check.due("account", i, x.addAccount(-1, 0, 0));
            }
            for (int i = 3; i < 8; i++) {
                Check.due("rules then", i, x.putRule(0, 0, 9, 0, 0));
                Check.due("seller", i, x.addSeller(-1, 0));
            }
            for (int i = 4; i < 30; i++) {
                Check.due("chance", i, x.addChance(0, 0, 1));
            }
            for (int i = 3; i < 40; i++) {
                Check.due("quote", i, x.quote(0, 0, 0));
            }
        });
    }

    private static void eachRowByItself() {
        Check.sentence("16 accounts leave room for all else", () -> {
            SalesDesk x = Desks.chainOf(0);
            for (int i = 1; i < 16; i++) {
                x.addAccount(-1, 0, 0);
            }
            roomForOthers(x, 16, 1, 1, 0);
        });
        Check.sentence("8 rules leave room for all else", () -> {
            SalesDesk x = Desks.chainOf(0);
            for (int i = 0; i < 8; i++) {
                x.putRule(0, 0, 9, 0, 0);
            }
            roomForOthers(x, 1, 8, 1, 0);
        });
        Check.sentence("8 sellers leave room for all else", () ->
                roomForOthers(Desks.chainOf(0, 0, 0, 0, 0, 0, 0, 0), 1, 1, 8, 0));
        Check.sentence("30 chances leave room for all else", () -> {
            SalesDesk x = Desks.chainOf(0);
            for (int i = 0; i < 30; i++) {
                x.addChance(0, 0, 1);
            }
            roomForOthers(x, 1, 1, 1, 30);
        });
        Check.sentence("40 quotes leave room for all but a quote", () -> {
            SalesDesk x = Desks.chainOf(0);
            x.addChance(0, 0, 1);
            for (int i = 0; i < 40; i++) {
                x.quote(0, 0, 0);
            }
            Check.due("account", 1, x.addAccount(-1, 0, 0));
            Check.due("rule", 1, x.putRule(0, 0, 9, 0, 0));
            Check.due("seller", 1, x.addSeller(-1, 0));
            Check.due("chance", 1, x.addChance(0, 0, 1));
            Check.due("freeze", 0, x.freeze());
        });
        Check.sentence("20 freezes leave room for all else", () -> {
            SalesDesk x = Desks.chainOf(0);
            for (int i = 0; i < 20; i++) {
                x.freeze();
            }
            Check.due("account", 1, x.addAccount(-1, 0, 0));
            Check.due("rule", 1, x.putRule(0, 0, 9, 0, 0));
            Check.due("seller", 1, x.addSeller(-1, 0));
            Check.due("chance", 0, x.addChance(0, 0, 1));
            Check.due("quote", 0, x.quote(0, 0, 0));
        });
    }

    private static void roomForOthers(SalesDesk x, int accounts, int rules, int sellers,
            int chances) {
        if (accounts < 16) {
            Check.due("account", accounts, x.addAccount(-1, 0, 0));
        }
        if (rules < 8) {
            Check.due("rule", 1, x.putRule(0, 0, 9, 0, 0));
        }
        if (sellers < 8) {
            Check.due("seller", sellers, x.addSeller(-1, 0));
        }
        if (chances < 30) {
            Check.due("chance", chances, x.addChance(0, 0, 1));
        }
        Check.due("quote", 0, x.quote(0, 0, 0));
        Check.due("freeze", 0, x.freeze());
        Check.due("pass", 1000, x.pass(1000));
    }

    private static void lastOnesWork() {
        Check.sentence("the last account has a region, an exception and chances", () -> {
            SalesDesk x = ALMOST.get();
            x.addAccount(14, 9, 9);
            x.addChance(15, 0, 77);
            Check.due("regionOf(15), that of the one above", 2, x.regionOf(15));
            Check.due("except(15, 1)", -1, x.except(15, 1));
            Check.due("regionOf(15)", 1, x.regionOf(15));
            x.quote(29, 0, 0);
            for (int stage = 1; stage <= 4; stage++) {
                x.move(29, stage);
            }
            Check.due("won(15)", 77, x.won(15));
            Check.due("won(14)", 77, x.won(14));
            Check.due("won(0), with the 710 of chance 0", 787, x.won(0));
            Check.due("inRegion(1, 4)", 77, x.inRegion(1, 4));
        });
        Check.sentence("the last rule is looked at", () -> {
            SalesDesk x = ALMOST.get();
            Check.due("regionOf(9), from above", 2, x.regionOf(9));
            x.putRule(7, 9, 9, 9, 1);
            Check.due("regionOf(9)", 1, x.regionOf(9));
        });
        Check.sentence("the last seller has a limit, an adjustment, shares and forecasts", () -> {
            SalesDesk x = ALMOST.get();
            x.addSeller(6, 99);
            int before = x.forecast(0);
            Check.due("since(18, 7)", 0, x.since(18, 7));
            Check.due("adjust(7, 9)", 0, x.adjust(7, 9));
            x.addChance(0, 7, 1000);
            Check.due("own(7)", 100, x.own(7));
            Check.due("forecast(7)", 109, x.forecast(7));
            Check.due("forecast(0)", before + 109, x.forecast(0));
            Check.due("since(18, 7)", 109, x.since(18, 7));
            Check.due("giveShare(29, 7, 0, 40)", 40, x.giveShare(29, 7, 0, 40));
            Check.due("own(7)", 60, x.own(7));
            Check.due("giveShare(28, 0, 7, 100)", 100, x.giveShare(28, 0, 7, 100));
            Check.due("quote(29, 7, 99)", 39, x.quote(29, 7, 99));
            Check.due("counting(29)", 39, x.counting(29));
            Check.due("worth(29)", 10, x.worth(29));
        });
        Check.sentence("the last chance has stages, days and a worth", () -> {
            SalesDesk x = ALMOST.get();
            x.addChance(0, 0, 500);
            Check.due("stalled(0)", 27, x.stalled(0));
            x.pass(1);
            Check.due("stalled(0)", 28, x.stalled(0));
            Check.due("daysIn(29, 0)", 1, x.daysIn(29, 0));
            Check.due("move(29, 1)", 1, x.move(29, 1));
            Check.due("stage(29)", 1, x.stage(29));
            Check.due("inRegion(0, 1)", 500, x.inRegion(0, 1));
            Check.due("worth(29)", 500, x.worth(29));
        });
        Check.sentence("the last quote waits, is approved and counts", () -> {
            SalesDesk x = ALMOST.get();
            int before = x.waiting();
            Check.due("quote(2, 6, 80)", 39, x.quote(2, 6, 80));
            Check.due("waiting()", before + 1, x.waiting());
            x.approve(39, 0);
            Check.due("waiting()", before, x.waiting());
            Check.due("counting(2)", 39, x.counting(2));
        });
        Check.sentence("the last freeze is kept", () -> {
            SalesDesk x = ALMOST.get();
            Check.due("since(18, 6)", 5, x.since(18, 6));
            Check.due("freeze()", 19, x.freeze());
            x.adjust(6, 25);
            Check.due("since(19, 6)", 20, x.since(19, 6));
            Check.due("since(18, 6)", 25, x.since(18, 6));
            Check.due("since(0, 6)", 25, x.since(0, 6));
        });
    }

    private static Supplier<SalesDesk> on(int day) {
        return () -> {
            SalesDesk x = new SalesDesk();
            Desks.toDay(x, 0, day);
            return x;
        };
    }

    private static void lastDay() {
        Refused.taken("2, from 99999 to 100000", ALMOST, 100000, x -> x.pass(1));
        Refused.taken("2, from 99000 to 100000", on(99000), 100000, x -> x.pass(1000));
        Refused.taken("2, from 99001 to 100000", on(99001), 100000, x -> x.pass(999));
        Refused.refused("2, if it would be later than 100000, by one", ALMOST, Check.STATE,
                x -> x.pass(2));
        Refused.refused("2, if it would be later than 100000, far", ALMOST, Check.STATE,
                x -> x.pass(1000));
        Refused.refused("2, if it would be later than 100000, from 99001", on(99001), Check.STATE,
                x -> x.pass(1000));
        Refused.refused("2, if it would be later than 100000, from there", FULL, Check.STATE,
                x -> x.pass(1));
        Refused.refused("2, if it would be later than 100000, from there far", FULL, Check.STATE,
                x -> x.pass(1000));
        Check.sentence("on the last day all else goes on", () -> {
            SalesDesk x = Desks.inStage(2);
            Desks.toDay(x, 0, 100000);
            Check.due("stalled(99999)", 1, x.stalled(99999));
            Check.due("stalled(100000)", 0, x.stalled(100000));
            Check.due("daysIn(0, 2)", 100000, x.daysIn(0, 2));
            x.quote(0, 0, 0);
            Check.due("move(0, 3)", 100000, x.move(0, 3));
            Check.due("addChance(0, 0, 1)", 1, x.addChance(0, 0, 1));
            Check.due("daysIn(1, 0)", 0, x.daysIn(1, 0));
            Check.due("move(0, 4)", 0, x.move(0, 4));
            Check.due("freeze()", 0, x.freeze());
        });
    }

    private static void calls() {
        Check.sentence("an object is used for at most 512 calls: the last of them too", () -> {
            SalesDesk x = new SalesDesk();
            for (int call = 1; call <= 512; call++) {
                Check.due("pass(1)", call, x.pass(1));
            }
            SalesDesk rules = new SalesDesk();
            for (int call = 1; call <= 512; call += 2) {
                Check.due("putRule", 1, rules.putRule(0, 0, 9, 0, 0));
                Check.due("removeRule", 0, rules.removeRule(0));
            }
            SalesDesk moves = Desks.inStage(0);
            for (int call = 6; call <= 512; call++) {
                Check.due("move", 0, moves.move(0, call % 2 == 0 ? 1 : 0));
            }
            SalesDesk wrong = new SalesDesk();
            for (int call = 1; call < 512; call++) {
                Check.fails("freeze 20 and on", Check.INDEX, () -> wrong.since(0, 0));
            }
            Check.due("the last call", 0, wrong.freeze());
        });
    }
}
