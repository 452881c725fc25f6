import java.util.function.Supplier;

/** The sentences of the terms on days, accounts, regions, stages and kept regions. */
public final class TermsTest {
    public static void main(String[] args) {
        daysByCalls();
        rulesAtTheirBounds();
        regionInOrder();
        orderOfRules();
        regionsFromAbove();
        comingToStages();
        needingQuote();
        daysInStages();
        stalledAtTheBound();
        keptRegions();
        openRegions();
        wonBelow();
        Check.end();
    }

    private static void daysByCalls() {
        Check.sentence("days go on by calls of pass alone", () -> {
            SalesDesk x = Desks.MIXED.get();
            x.addAccount(-1, 0, 0);
            x.putRule(0, 0, 9, 0, 0);
            x.removeRule(0);
            x.except(0, 1);
            x.addSeller(-1, 0);
            x.adjust(0, 1);
            x.addChance(0, 0, 1);
            x.giveShare(0, 2, 1, 1);
            x.move(0, 0);
            x.quote(0, 0, 1);
            x.approve(1, 0);
            x.freeze();
            Check.due("daysIn(3, 0)", 15, x.daysIn(3, 0));
            Check.due("pass(1)", 16, x.pass(1));
        });
    }

    /** A desk with one account, and one rule that leads to region 3. */
    private static SalesDesk ruled(int area, int size, int first, int last, int least) {
        SalesDesk x = new SalesDesk();
        x.addAccount(-1, area, size);
        x.putRule(0, first, last, least, 3);
        return x;
    }

    private static void rule(String words, int due, int area, int size, int first, int last,
            int least) {
        Check.sentence("a rule " + words, () -> Check.due("regionOf(0)", due,
                ruled(area, size, first, last, least).regionOf(0)));
    }

    private static void rulesAtTheirBounds() {
        rule("has its first area", 3, 4, 5, 4, 6, 0);
        rule("has its last area", 3, 6, 5, 4, 6, 0);
        rule("has one in between", 3, 5, 5, 4, 6, 0);
        rule("has not the area before the first", 0, 3, 5, 4, 6, 0);
        rule("has not the area after the last", 0, 7, 5, 4, 6, 0);
        rule("of one area has it", 3, 4, 5, 4, 4, 0);
        rule("of one area has not the one before", 0, 3, 5, 4, 4, 0);
        rule("of one area has not the one after", 0, 5, 5, 4, 4, 0);
        rule("has area 0", 3, 0, 5, 0, 0, 0);
        rule("has area 9", 3, 9, 5, 9, 9, 0);
        rule("of all areas has 0", 3, 0, 5, 0, 9, 0);
        rule("of all areas has 9", 3, 9, 5, 0, 9, 0);
        rule("fits where the size is the least size", 3, 5, 5, 5, 5, 5);
        rule("does not fit where the size is one less", 0, 5, 4, 5, 5, 5);
        rule("fits where the size is more", 3, 5, 6, 5, 5, 5);
        rule("of the least size 0 fits the size 0", 3, 5, 0, 5, 5, 0);
        rule("of the least size 9 fits the size 9", 3, 5, 9, 5, 5, 9);
        rule("of the least size 9 does not fit the size 8", 0, 5, 8, 5, 5, 9);
        rule("has not the size for an area", 0, 2, 5, 5, 5, 2);
    }

    private static void regionInOrder() {
        Check.sentence("an exception goes before a rule that fits", () -> {
            SalesDesk x = ruled(5, 5, 0, 9, 0);
            x.except(0, 1);
            Check.due("regionOf(0)", 1, x.regionOf(0));
        });
        Check.sentence("an exception to region 0 goes before a rule that fits", () -> {
            SalesDesk x = ruled(5, 5, 0, 9, 0);
            x.except(0, 0);
            Check.due("regionOf(0)", 0, x.regionOf(0));
        });
        Check.sentence("an exception goes before the region of the one above", () -> {
            SalesDesk x = new SalesDesk();
            x.addAccount(-1, 5, 5);
            x.addAccount(0, 5, 5);
            x.except(0, 1);
            x.except(1, 2);
            Check.due("regionOf(1)", 2, x.regionOf(1));
            x.except(1, 0);
            Check.due("regionOf(1)", 0, x.regionOf(1));
        });
        Check.sentence("an exception taken away leaves the rules", () -> {
            SalesDesk x = ruled(5, 5, 0, 9, 0);
            x.except(0, 1);
            x.except(0, -1);
            Check.due("regionOf(0)", 3, x.regionOf(0));
        });
        Check.sentence("an exception is that of one account", () -> {
            SalesDesk x = new SalesDesk();
            x.addAccount(-1, 5, 5);
            x.addAccount(-1, 5, 5);
            x.addAccount(1, 5, 5);
            x.except(2, 1);
            Check.due("regionOf(0)", 0, x.regionOf(0));
            Check.due("regionOf(1)", 0, x.regionOf(1));
            Check.due("regionOf(2)", 1, x.regionOf(2));
        });
        Check.sentence("without an exception the first rule that fits", () -> {
            SalesDesk x = ruled(5, 5, 0, 9, 0);
            x.putRule(1, 5, 5, 5, 1);
            Check.due("regionOf(0)", 3, x.regionOf(0));
        });
        Check.sentence("a rule that does not fit is passed over", () -> {
            SalesDesk x = ruled(5, 5, 0, 9, 6);
            x.putRule(1, 6, 9, 0, 2);
            x.putRule(2, 5, 5, 5, 1);
            Check.due("regionOf(0)", 1, x.regionOf(0));
        });
        Check.sentence("a rule to region 0 is one too, and goes before the next", () -> {
            SalesDesk x = ruled(5, 5, 0, 9, 0);
            x.putRule(0, 5, 5, 5, 0);
            Check.due("regionOf(0)", 0, x.regionOf(0));
        });
        Check.sentence("the last of eight rules", () -> {
            SalesDesk x = ruled(5, 5, 5, 5, 5);
            for (int i = 0; i < 7; i++) {
                x.putRule(0, 6, 9, 0, 1);
            }
            Check.due("regionOf(0)", 3, x.regionOf(0));
        });
        Check.sentence("without exception, rule and one above: region 0", () ->
                Check.due("regionOf(0)", 0, ruled(5, 5, 6, 9, 0).regionOf(0)));
    }

    /** The regions of the rules in their order, seen by taking the first one away each time. */
    private static void rules(SalesDesk x, int... regions) {
        for (int i = 0; i < regions.length; i++) {
            Check.due("rule " + i + " leads to", regions[i], x.regionOf(0));
            Check.due("rules left", regions.length - 1 - i, x.removeRule(0));
        }
    }

    /** Rules that all fit account 0, to the regions 1, 2 and 3. */
    private static SalesDesk threeRules() {
        SalesDesk x = ruled(5, 5, 0, 9, 0);
        x.putRule(0, 0, 9, 0, 2);
        x.putRule(0, 0, 9, 0, 1);
        return x;
    }

    private static void orderOfRules() {
        Check.sentence("4, a rule put at place 0 moves all back", () -> {
            SalesDesk x = threeRules();
            x.putRule(0, 0, 9, 0, 0);
            rules(x, 0, 1, 2, 3);
        });
        Check.sentence("4, a rule put in between moves back those from there on", () -> {
            SalesDesk x = threeRules();
            x.putRule(1, 0, 9, 0, 0);
            rules(x, 1, 0, 2, 3);
        });
        Check.sentence("4, a rule put at the last one's place stands before it", () -> {
            SalesDesk x = threeRules();
            x.putRule(2, 0, 9, 0, 0);
            rules(x, 1, 2, 0, 3);
        });
        Check.sentence("4, a rule put at the number of rules stands last", () -> {
            SalesDesk x = threeRules();
            x.putRule(3, 0, 9, 0, 0);
            rules(x, 1, 2, 3, 0);
        });
        Check.sentence("5, the first rule removed", () -> {
            SalesDesk x = threeRules();
            x.removeRule(0);
            rules(x, 2, 3);
        });
        Check.sentence("5, a rule removed in between", () -> {
            SalesDesk x = threeRules();
            x.removeRule(1);
            rules(x, 1, 3);
        });
        Check.sentence("5, the last rule removed", () -> {
            SalesDesk x = threeRules();
            x.removeRule(2);
            rules(x, 1, 2);
        });
    }

    private static void regionsFromAbove() {
        Check.sentence("without exception and rule, the exception of the one above", () -> {
            SalesDesk x = ruled(5, 5, 6, 9, 0);
            x.addAccount(0, 5, 5);
            x.except(0, 2);
            Check.due("regionOf(1)", 2, x.regionOf(1));
        });
        Check.sentence("without exception and rule, the rule of the one above", () -> {
            SalesDesk x = ruled(5, 5, 5, 5, 0);
            x.addAccount(0, 4, 5);
            Check.due("regionOf(1)", 3, x.regionOf(1));
        });
        Check.sentence("an own rule goes before the exception of the one above", () -> {
            SalesDesk x = ruled(5, 5, 4, 4, 0);
            x.addAccount(0, 4, 5);
            x.except(0, 2);
            Check.due("regionOf(1)", 3, x.regionOf(1));
        });
        Check.sentence("the one above, at the distance of 15", () -> {
            SalesDesk x = new SalesDesk();
            for (int i = 0; i < 16; i++) {
                x.addAccount(i - 1, 5, 5);
            }
            Check.due("regionOf(15), nothing above", 0, x.regionOf(15));
            x.except(0, 3);
            Check.due("regionOf(15)", 3, x.regionOf(15));
            x.except(7, 1);
            Check.due("regionOf(15), the nearest one", 1, x.regionOf(15));
            Check.due("regionOf(6), above that", 3, x.regionOf(6));
        });
        Check.sentence("a rule and an exception hold for accounts added after them", () -> {
            SalesDesk x = ruled(5, 5, 4, 4, 0);
            x.except(0, 1);
            x.addAccount(-1, 4, 0);
            x.addAccount(0, 5, 5);
            Check.due("regionOf(1), by the rule", 3, x.regionOf(1));
            Check.due("regionOf(2), by the exception above", 1, x.regionOf(2));
        });
        Check.sentence("one beside or below does not tell a region", () -> {
            SalesDesk x = new SalesDesk();
            x.addAccount(-1, 5, 5);
            x.addAccount(0, 5, 5);
            x.addAccount(0, 5, 5);
            x.except(1, 3);
            Check.due("regionOf(0)", 0, x.regionOf(0));
            Check.due("regionOf(2)", 0, x.regionOf(2));
        });
    }

    /** A chance that came to a stage on day 0, with no quote but where it needs one; now is day 3. */
    private static Supplier<SalesDesk> threeDaysIn(int stage) {
        return () -> {
            SalesDesk x = Desks.inStage(stage);
            x.pass(3);
            return x;
        };
    }

    /** A desk whose chance has a quote that counts, and is in a stage. */
    private static SalesDesk quotedIn(int stage) {
        SalesDesk x = Desks.inStage(0);
        x.quote(0, 0, 0);
        for (int next = 1; next <= stage && stage < 5; next++) {
            x.move(0, next);
        }
        if (stage == 5) {
            x.move(0, 5);
        }
        return x;
    }

    private static void comingToStages() {
        String[] can = {"15", "025", "0135", "01245", "", ""};
        for (int from = 0; from <= 5; from++) {
            for (int to = 0; to <= 5; to++) {
                int start = from;
                int stage = to;
                Supplier<SalesDesk> desk = () -> {
                    SalesDesk x = quotedIn(start);
                    x.pass(3);
                    return x;
                };
                if (can[from].indexOf('0' + to) >= 0) {
                    Check.sentence("12, from " + from + " it can come to " + to, () -> {
                        SalesDesk x = desk.get();
                        Check.due("move", 3, x.move(0, stage));
                        Check.due("stage", stage, x.stage(0));
                    });
                } else {
                    Refused.refused("12, from " + from + " it cannot come to " + to, desk,
                            Check.STATE, x -> x.move(0, stage));
                }
            }
        }
        Check.sentence("a chance begins in stage 0", () ->
                Check.due("stage(0)", 0, Desks.inStage(0).stage(0)));
    }

    private static void needingQuote() {
        Refused.refused("12, to 3 from 2 without a quote", threeDaysIn(2), Check.STATE,
                x -> x.move(0, 3));
        Refused.refused("12, to 3 from 2 with a quote that waits", () -> {
            SalesDesk x = threeDaysIn(2).get();
            x.quote(0, 2, 1);
            return x;
        }, Check.STATE, x -> x.move(0, 3));
        Refused.refused("12, to 3 from 2 with another chance's quote", () -> {
            SalesDesk x = threeDaysIn(2).get();
            x.addChance(0, 2, 1000);
            x.quote(1, 0, 0);
            return x;
        }, Check.STATE, x -> x.move(0, 3));
        Refused.taken("12, to 3 from 2 with a quote that counts", () -> {
            SalesDesk x = Desks.inStage(2);
            x.quote(0, 2, 0);
            return x;
        }, 0, x -> x.move(0, 3));
        Refused.taken("12, to 3 from 2 with one that was approved later", () -> {
            SalesDesk x = Desks.inStage(2);
            x.quote(0, 2, 1);
            x.approve(0, 1);
            return x;
        }, 0, x -> x.move(0, 3));
        Refused.taken("12, to 3 from 2 with one that was made in stage 0", () -> {
            SalesDesk x = quotedIn(2);
            x.quote(0, 2, 1);
            return x;
        }, 0, x -> x.move(0, 3));
        Refused.taken("12, to 3 from 2 once more", () -> {
            SalesDesk x = quotedIn(3);
            x.move(0, 2);
            return x;
        }, 0, x -> x.move(0, 3));
        for (int stage = 0; stage <= 2; stage++) {
            int from = stage;
            Refused.taken("12, to 5 from " + from + " without a quote", threeDaysIn(from), 3,
                    x -> x.move(0, 5));
        }
        for (int stage = 0; stage <= 1; stage++) {
            int from = stage;
            Refused.taken("12, to " + (from + 1) + " from " + from + " without a quote",
                    threeDaysIn(from), 3, x -> x.move(0, from + 1));
            Refused.taken("12, to " + from + " from 2 without a quote", threeDaysIn(2), 3,
                    x -> x.move(0, from));
        }
    }

    /** A chance that was in stage 0 from day 5 to 7 and from 12 to 22, and in 1 in between. */
    private static SalesDesk traced() {
        SalesDesk x = Desks.chainOf(50);
        x.pass(5);
        x.addChance(0, 0, 100);
        x.pass(2);
        x.move(0, 1);
        x.pass(5);
        x.move(0, 0);
        x.pass(10);
        return x;
    }

    private static void daysInStages() {
        Supplier<SalesDesk> traced = TermsTest::traced;
        Refused.taken("14, in all, the present one up to now", traced, 12, x -> x.daysIn(0, 0));
        Refused.taken("14, one that it left", traced, 5, x -> x.daysIn(0, 1));
        Refused.taken("14, one that it never came to", traced, 0, x -> x.daysIn(0, 2));
        Refused.taken("12, the days of this stay, not in all", traced, 10, x -> x.move(0, 1));
        Check.sentence("12, two moves on one day", () -> {
            SalesDesk x = traced();
            Check.due("move(0, 1)", 10, x.move(0, 1));
            Check.due("move(0, 2)", 0, x.move(0, 2));
            Check.due("daysIn(0, 1)", 5, x.daysIn(0, 1));
            Check.due("daysIn(0, 2)", 0, x.daysIn(0, 2));
        });
        Check.sentence("14, the days before the chance was added do not count", () -> {
            SalesDesk x = Desks.chainOf(0);
            x.pass(1000);
            x.addChance(0, 0, 1);
            Check.due("daysIn(0, 0)", 0, x.daysIn(0, 0));
            x.pass(1);
            Check.due("daysIn(0, 0)", 1, x.daysIn(0, 0));
        });
        for (int stage = 0; stage <= 5; stage++) {
            int in = stage;
            Check.sentence("14, the present one up to now, stage " + stage, () -> {
                SalesDesk x = quotedIn(in);
                x.pass(9);
                Check.due("daysIn(0, " + in + ")", 9, x.daysIn(0, in));
                for (int other = 0; other <= 5; other++) {
                    if (other != in) {
                        Check.due("daysIn(0, " + other + ")", 0, x.daysIn(0, other));
                    }
                }
            });
        }
        Check.sentence("14, all days there are", () -> {
            SalesDesk x = Desks.inStage(1);
            Desks.toDay(x, 0, 100000);
            Check.due("daysIn(0, 1)", 100000, x.daysIn(0, 1));
            Check.due("move(0, 0)", 100000, x.move(0, 0));
            Check.due("daysIn(0, 1)", 100000, x.daysIn(0, 1));
        });
    }

    private static void stalledAtTheBound() {
        Supplier<SalesDesk> traced = TermsTest::traced;
        Refused.taken("15, for more than 9 days, after 10", traced, 1, x -> x.stalled(9));
        Refused.taken("15, not for more than 10 days, after 10", traced, 0, x -> x.stalled(10));
        Refused.taken("15, this time: not the 12 in all", traced, 0, x -> x.stalled(11));
        Refused.taken("15, for more than 0 days, on the same day", () -> Desks.inStage(0), 0,
                x -> x.stalled(0));
        for (int stage = 0; stage <= 5; stage++) {
            int in = stage;
            Refused.taken("15, the open chances: stage " + stage, () -> {
                SalesDesk x = quotedIn(in);
                x.pass(1);
                return x;
            }, stage < 4 ? 1 : 0, x -> x.stalled(0));
        }
        Check.sentence("15, more than 99999 days, on the last day", () -> {
            SalesDesk x = Desks.inStage(0);
            Desks.toDay(x, 0, 100000);
            Check.due("stalled(99999)", 1, x.stalled(99999));
            Check.due("stalled(100000)", 0, x.stalled(100000));
        });
        Check.sentence("15, all 30 chances", () -> {
            SalesDesk x = Desks.chainOf(0);
            for (int i = 0; i < 30; i++) {
                x.addChance(0, 0, 1);
            }
            x.pass(1);
            Check.due("stalled(0)", 30, x.stalled(0));
        });
    }

    /** A chance of 1000 in a stage, whose account has the region 1, in its exception. */
    private static SalesDesk excepted(int stage) {
        SalesDesk x = Desks.inStage(0);
        x.except(0, 1);
        Desks.bring(x, 0, stage);
        return x;
    }

    private static void keptRegions() {
        for (int stage = 4; stage <= 5; stage++) {
            int in = stage;
            Check.sentence("the region is kept in stage " + stage + ", the exception moved", () -> {
                SalesDesk x = excepted(in);
                x.except(0, 2);
                Check.due("inRegion, as it was then", 1000, x.inRegion(1, in));
                Check.due("inRegion, as it is now", 0, x.inRegion(2, in));
            });
            Check.sentence("the region is kept in stage " + stage + ", the exception gone", () -> {
                SalesDesk x = excepted(in);
                x.except(0, -1);
                Check.due("inRegion, as it was then", 1000, x.inRegion(1, in));
                Check.due("inRegion, as it is now", 0, x.inRegion(0, in));
            });
            Check.sentence("the region is kept in stage " + stage + ", a rule drawn", () -> {
                SalesDesk x = Desks.inStage(in);
                x.putRule(0, 0, 9, 0, 3);
                Check.due("inRegion, as it was then", 1000, x.inRegion(0, in));
                Check.due("inRegion, as it is now", 0, x.inRegion(3, in));
            });
            Check.sentence("the region is kept in stage " + stage + ", a rule removed", () -> {
                SalesDesk x = Desks.inStage(0);
                x.putRule(0, 0, 9, 0, 3);
                Desks.bring(x, 0, in);
                x.removeRule(0);
                Check.due("inRegion, as it was then", 1000, x.inRegion(3, in));
                Check.due("inRegion, as it is now", 0, x.inRegion(0, in));
            });
            Check.sentence("the region is kept in stage " + stage + ", that of one above", () -> {
                SalesDesk x = Desks.chainOf(0);
                x.addAccount(0, 0, 0);
                x.addChance(1, 0, 500);
                x.except(0, 2);
                Desks.bring(x, 0, in);
                x.except(0, 3);
                Check.due("inRegion, as it was then", 500, x.inRegion(2, in));
                Check.due("inRegion, as it is now", 0, x.inRegion(3, in));
            });
            Check.sentence("the region kept in stage " + stage + " is that of then, not of 0", () -> {
                SalesDesk x = Desks.inStage(0);
                x.except(0, 1);
                x.move(0, 1);
                x.except(0, 2);
                x.move(0, 0);
                Desks.bring(x, 0, in);
                Check.due("inRegion", 1000, x.inRegion(2, in));
                Check.due("inRegion, as it was once", 0, x.inRegion(1, in));
            });
        }
    }

    private static void openRegions() {
        for (int stage = 0; stage <= 3; stage++) {
            int in = stage;
            Check.sentence("the region of an open chance goes with its account, in " + in, () -> {
                SalesDesk x = excepted(in);
                Check.due("inRegion(1, ..)", 1000, x.inRegion(1, in));
                x.except(0, 2);
                Check.due("inRegion(1, ..)", 0, x.inRegion(1, in));
                Check.due("inRegion(2, ..)", 1000, x.inRegion(2, in));
                x.except(0, -1);
                Check.due("inRegion(0, ..)", 1000, x.inRegion(0, in));
                x.putRule(0, 0, 0, 0, 3);
                Check.due("inRegion(3, ..)", 1000, x.inRegion(3, in));
                for (int other = 0; other <= 5; other++) {
                    if (other != in) {
                        Check.due("inRegion(3, " + other + ")", 0, x.inRegion(3, other));
                    }
                }
            });
        }
        Check.sentence("17, the sum over all 30 chances, at most 30 million", () -> {
            SalesDesk x = Desks.chainOf(0);
            x.except(0, 3);
            for (int i = 0; i < 30; i++) {
                x.addChance(0, 0, 1000000);
            }
            Check.due("inRegion(3, 0)", 30000000, x.inRegion(3, 0));
        });
    }

    private static void wonBelow() {
        for (int stage = 0; stage <= 5; stage++) {
            int in = stage;
            Refused.taken("18, won chances alone: stage " + stage, () -> Desks.inStage(in),
                    stage == 4 ? 1000 : 0, x -> x.won(0));
        }
        Check.sentence("18, accounts below, at whatever distance, up to 15", () -> {
            SalesDesk x = Desks.chainOf(0);
            for (int i = 1; i < 16; i++) {
                x.addAccount(i - 1, 0, 0);
            }
            x.addChance(15, 0, 7);
            Desks.bring(x, 0, 4);
            for (int i = 0; i < 16; i++) {
                Check.due("won(" + i + ")", 7, x.won(i));
            }
        });
        Check.sentence("18, not those above or beside", () -> {
            SalesDesk x = Desks.chainOf(0);
            x.addAccount(0, 0, 0);
            x.addAccount(0, 0, 0);
            x.addAccount(-1, 0, 0);
            for (int i = 0; i < 4; i++) {
                x.addChance(i, 0, 1 << i);
                Desks.bring(x, i, 4);
            }
            Check.due("won(0)", 7, x.won(0));
            Check.due("won(1)", 2, x.won(1));
            Check.due("won(2)", 4, x.won(2));
            Check.due("won(3)", 8, x.won(3));
        });
        Check.sentence("18, an account added below later adds to the one above", () -> {
            SalesDesk x = Desks.inStage(4);
            x.addAccount(0, 0, 0);
            Check.due("won(0)", 1000, x.won(0));
            Check.due("won(1)", 0, x.won(1));
            x.addChance(1, 0, 50);
            Desks.bring(x, 1, 4);
            Check.due("won(0)", 1050, x.won(0));
            Check.due("won(1)", 50, x.won(1));
        });
        Check.sentence("18, the worth, not the amount", () -> {
            SalesDesk x = Desks.inStage(3);
            x.quote(0, 0, 33);
            x.move(0, 4);
            Check.due("won(0)", 670, x.won(0));
        });
    }
}
