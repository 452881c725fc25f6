import java.util.function.Supplier;

/** The sentences of the terms on sellers, shares, quotes, worth and forecasts. */
public final class MoneyTest {
    public static void main(String[] args) {
        shares();
        limits();
        approvers();
        notApprovers();
        approvedOrEnded();
        lastApproved();
        quotesOfOpenOnes();
        waitingOnes();
        worths();
        partsRounded();
        weights();
        layers();
        growth();
        Check.end();
    }

    private static void shares() {
        Check.sentence("11, the one gives all that it has", () -> {
            SalesDesk x = Desks.inStage(0);
            x.giveShare(0, 2, 1, 60);
            Check.due("giveShare(0, 2, 1, 40)", 100, x.giveShare(0, 2, 1, 40));
        });
        Refused.refused("11, if the one has less, by one", () -> {
            SalesDesk x = Desks.inStage(0);
            x.giveShare(0, 2, 1, 60);
            return x;
        }, Check.STATE, x -> x.giveShare(0, 2, 1, 41));
        Refused.refused("11, if the one has less, having none", () -> Desks.inStage(0),
                Check.STATE, x -> x.giveShare(0, 1, 2, 1));
        for (int stage = 0; stage <= 3; stage++) {
            int in = stage;
            Refused.taken("11, of an open chance, in " + in, () -> Desks.inStage(in), 1,
                    x -> x.giveShare(0, 2, 1, 1));
        }
        Refused.refused("11, if the chance is won", () -> Desks.inStage(4), Check.STATE,
                x -> x.giveShare(0, 2, 1, 1));
        Refused.refused("11, if the chance is lost", () -> Desks.inStage(5), Check.STATE,
                x -> x.giveShare(0, 2, 1, 1));
        Check.sentence("shares sum up to 100, among all eight sellers", () -> {
            SalesDesk x = Desks.chainOf(0, 0, 0, 0, 0, 0, 0, 0);
            x.addChance(0, 0, 1000);
            for (int i = 1; i < 8; i++) {
                Check.due("giveShare", 10, x.giveShare(0, 0, i, 10));
            }
            for (int i = 1; i < 8; i++) {
                Check.due("own(" + i + ")", 10, x.own(i));
            }
            Check.due("own(0)", 30, x.own(0));
            Check.due("giveShare(0, 0, 7, 30), all that is left", 40, x.giveShare(0, 0, 7, 30));
            Check.due("own(0)", 0, x.own(0));
        });
        Check.sentence("a share is that of one chance", () -> {
            SalesDesk x = Desks.inStage(0);
            x.addChance(0, 2, 1000);
            x.giveShare(0, 2, 1, 100);
            Check.due("giveShare(1, 2, 1, 30)", 30, x.giveShare(1, 2, 1, 30));
        });
        Check.sentence("a seller added after the chance has none of it, and can be given it", () -> {
            SalesDesk x = Desks.inStage(0);
            x.addSeller(-1, 0);
            Check.due("own(3)", 0, x.own(3));
            Check.fails("giveShare(0, 3, 2, 1)", Check.STATE, () -> x.giveShare(0, 3, 2, 1));
            Check.due("giveShare(0, 2, 3, 70)", 70, x.giveShare(0, 2, 3, 70));
            Check.due("own(3)", 70, x.own(3));
            Check.due("own(2)", 30, x.own(2));
            Check.due("giveShare(0, 3, 2, 70), back", 100, x.giveShare(0, 3, 2, 70));
        });
        Check.sentence("10, all the share is that of the one seller", () -> {
            SalesDesk x = Desks.inStage(0);
            Check.due("own(0)", 0, x.own(0));
            Check.due("own(1)", 0, x.own(1));
            Check.due("giveShare(0, 2, 0, 100)", 100, x.giveShare(0, 2, 0, 100));
        });
    }

    private static void limits() {
        limit("a discount at the limit", 20, 20, true);
        limit("a discount one above the limit", 20, 21, false);
        limit("no discount, at the limit 0", 0, 0, true);
        limit("the discount 1, at the limit 0", 0, 1, false);
        limit("the discount 99, at the limit 99", 99, 99, true);
        limit("the discount 99, at the limit 98", 98, 99, false);
    }

    private static void limit(String words, int limit, int discount, boolean atOnce) {
        Check.sentence("approved at once or not: " + words, () -> {
            SalesDesk x = Desks.chainOf(limit);
            x.addChance(0, 0, 100);
            Check.due("quote", 0, x.quote(0, 0, discount));
            Check.due("waiting()", atOnce ? 0 : 1, x.waiting());
            Check.due("worth(0)", atOnce ? 100 - discount : 100, x.worth(0));
            if (atOnce) {
                Check.due("counting(0)", 0, x.counting(0));
            } else {
                Check.fails("counting(0)", Check.NOTHING_THERE, () -> x.counting(0));
            }
        });
    }

    /** Sellers in a chain, of whom the last has made quote 0 for chance 0. */
    private static Supplier<SalesDesk> asking(int discount, int... limits) {
        return () -> {
            SalesDesk x = Desks.chainOf(limits);
            x.addChance(0, 0, 100);
            x.quote(0, limits.length - 1, discount);
            return x;
        };
    }

    private static int approved(SalesDesk x, int quote, int seller) {
        x.approve(quote, seller);
        return x.counting(0);
    }

    private static void approvers() {
        Refused.taken("20, the seller right above", asking(10, 10, 0), 0, x -> approved(x, 0, 0));
        Refused.taken("20, a seller two above", asking(10, 10, 0, 0), 0, x -> approved(x, 0, 0));
        Refused.taken("20, a seller in the middle", asking(10, 0, 10, 0), 0,
                x -> approved(x, 0, 1));
        Refused.taken("20, a seller seven above", asking(10, 10, 0, 0, 0, 0, 0, 0, 0), 0,
                x -> approved(x, 0, 0));
        Refused.taken("20, the largest discount at the largest limit", asking(99, 99, 98), 0,
                x -> approved(x, 0, 0));
        Refused.refused("20, one above the own limit", asking(11, 10, 0), Check.STATE,
                x -> approved(x, 0, 0));
        Refused.refused("20, the largest discount at the limit 98", asking(99, 98, 98),
                Check.STATE, x -> approved(x, 0, 0));
        Refused.refused("20, the own limit, not that of one above", asking(11, 50, 10, 0),
                Check.STATE, x -> approved(x, 0, 1));
        Refused.refused("20, the own limit, not that of one below", asking(11, 10, 50, 0),
                Check.STATE, x -> approved(x, 0, 0));
        Check.sentence("20, it counts then and does not wait", () -> {
            SalesDesk x = asking(10, 10, 0).get();
            Check.due("waiting()", 1, x.waiting());
            Check.due("worth(0)", 100, x.worth(0));
            x.approve(0, 0);
            Check.due("waiting()", 0, x.waiting());
            Check.due("worth(0)", 90, x.worth(0));
        });
        Check.sentence("20, at the day, without a share and from any open stage", () -> {
            for (int stage = 0; stage <= 3; stage++) {
                SalesDesk x = Desks.inStage(stage);
                int made = x.quote(0, 2, 30);
                x.pass(1000);
                Check.due("the quote that counts", made, approved(x, made, 0));
            }
        });
    }

    /** Sellers 0 with 1 and 2 right below, 3 below 1, and 4 alone; all but 1 have the limit 99. */
    private static SalesDesk tree() {
        SalesDesk x = Desks.chainOf(99, 0);
        x.addSeller(0, 99);
        x.addSeller(1, 99);
        x.addSeller(-1, 99);
        x.addChance(0, 1, 100);
        x.quote(0, 1, 50);
        return x;
    }

    private static void notApprovers() {
        Supplier<SalesDesk> tree = MoneyTest::tree;
        Refused.taken("20, who is above", tree, 0, x -> approved(x, 0, 0));
        Refused.refused("20, who made it is not above", tree, Check.STATE,
                x -> approved(x, 0, 1));
        Refused.refused("20, who is beside is not above", tree, Check.STATE,
                x -> approved(x, 0, 2));
        Refused.refused("20, who is below is not above", tree, Check.STATE,
                x -> approved(x, 0, 3));
        Refused.refused("20, who is alone is not above", tree, Check.STATE,
                x -> approved(x, 0, 4));
        Refused.refused("20, nobody is above one who has none above", asking(60, 50), Check.STATE,
                x -> approved(x, 0, 0));
        Check.sentence("20, above the maker, not above the one who holds the share", () -> {
            SalesDesk x = tree();
            x.addSeller(4, 0);
            x.quote(0, 5, 60);
            Check.due("counting(0)", 1, approved(x, 1, 4));
            x.quote(0, 5, 60);
            Check.fails("approve(2, 0)", Check.STATE, () -> approved(x, 2, 0));
        });
    }

    private static void approvedOrEnded() {
        Refused.refused("20, if it is approved, at once", asking(0, 50, 0), Check.STATE,
                x -> approved(x, 0, 0));
        Refused.refused("20, if it is approved, by the same before", () -> {
            SalesDesk x = asking(10, 50, 40, 0).get();
            x.approve(0, 1);
            return x;
        }, Check.STATE, x -> approved(x, 0, 1));
        Refused.refused("20, if it is approved, by another before", () -> {
            SalesDesk x = asking(10, 50, 40, 0).get();
            x.approve(0, 1);
            return x;
        }, Check.STATE, x -> approved(x, 0, 0));
        Refused.refused("20, if it is approved, and another one counts since", () -> {
            SalesDesk x = asking(10, 50, 0).get();
            x.approve(0, 0);
            x.quote(0, 0, 20);
            return x;
        }, Check.STATE, x -> approved(x, 0, 0));
        for (int stage = 4; stage <= 5; stage++) {
            int in = stage;
            Refused.refused("20, its chance is in stage " + stage, () -> {
                SalesDesk x = asking(10, 50, 0).get();
                Desks.bring(x, 0, in);
                return x;
            }, Check.STATE, x -> approved(x, 0, 0));
        }
    }

    private static void lastApproved() {
        Check.sentence("that one counts which was approved last, not made last", () -> {
            SalesDesk x = asking(10, 50, 0).get();
            x.quote(0, 0, 20);
            Check.due("counting(0)", 1, x.counting(0));
            x.approve(0, 0);
            Check.due("counting(0)", 0, x.counting(0));
            Check.due("worth(0)", 90, x.worth(0));
        });
        Check.sentence("a seller added after the chance makes a quote for it", () -> {
            SalesDesk x = asking(0, 50).get();
            x.addSeller(0, 5);
            Check.due("quote(0, 1, 6)", 1, x.quote(0, 1, 6));
            Check.due("counting(0), that one waits", 0, x.counting(0));
            Check.due("counting(0), approved", 1, approved(x, 1, 0));
            Check.due("quote(0, 1, 5)", 2, x.quote(0, 1, 5));
            Check.due("counting(0), approved at once", 2, x.counting(0));
        });
        Check.sentence("that one counts which was approved last, not the best", () -> {
            SalesDesk x = asking(10, 50).get();
            x.quote(0, 0, 5);
            Check.due("counting(0)", 1, x.counting(0));
            x.quote(0, 0, 30);
            Check.due("counting(0)", 2, x.counting(0));
            x.quote(0, 0, 30);
            Check.due("counting(0)", 3, x.counting(0));
        });
        Check.sentence("one that waits takes nothing from the one that counts", () -> {
            SalesDesk x = asking(0, 50, 0).get();
            x.quote(0, 1, 1);
            Check.due("counting(0)", 0, x.counting(0));
            Check.due("worth(0)", 100, x.worth(0));
        });
        Check.sentence("of the quotes of a chance", () -> {
            SalesDesk x = asking(10, 50).get();
            x.addChance(0, 0, 100);
            x.quote(1, 0, 20);
            Check.due("counting(0)", 0, x.counting(0));
            Check.due("counting(1)", 1, x.counting(1));
            Check.due("worth(0)", 90, x.worth(0));
            Check.due("worth(1)", 80, x.worth(1));
        });
        for (int stage = 3; stage <= 5; stage++) {
            int in = stage;
            Check.sentence("21, the quote counts on in stage " + stage, () -> {
                SalesDesk x = asking(10, 50).get();
                Desks.bring(x, 0, 2);
                x.move(0, in == 5 ? 5 : 3);
                if (in == 4) {
                    x.move(0, 4);
                }
                Check.due("counting(0)", 0, x.counting(0));
                Check.due("worth(0)", 90, x.worth(0));
            });
        }
    }

    private static void quotesOfOpenOnes() {
        for (int stage = 0; stage <= 2; stage++) {
            int in = stage;
            Refused.taken("19, for a chance that is open, in " + in, () -> Desks.inStage(in), 0,
                    x -> x.quote(0, 2, 0));
        }
        Refused.taken("19, for a chance that is open, in 3", () -> Desks.inStage(3), 1,
                x -> x.quote(0, 2, 0));
        Refused.refused("19, if the chance is won", () -> Desks.inStage(4), Check.STATE,
                x -> x.quote(0, 2, 0));
        Refused.refused("19, if the chance is won, one that would wait", () -> Desks.inStage(4),
                Check.STATE, x -> x.quote(0, 2, 99));
        Refused.refused("19, if the chance is lost", () -> Desks.inStage(5), Check.STATE,
                x -> x.quote(0, 2, 0));
        Refused.refused("19, if the chance is lost, one that would wait", () -> Desks.inStage(5),
                Check.STATE, x -> x.quote(0, 2, 99));
    }

    private static void waitingOnes() {
        for (int stage = 0; stage <= 5; stage++) {
            int in = stage;
            Refused.taken("22, a quote waits whose chance is open: stage " + stage, () -> {
                SalesDesk x = asking(10, 50, 0).get();
                Desks.bring(x, 0, in);
                return x;
            }, stage < 4 ? 1 : 0, x -> x.waiting());
        }
        Refused.taken("22, all 40", () -> {
            SalesDesk x = Desks.inStage(0);
            for (int i = 0; i < 40; i++) {
                x.quote(0, 2, 1);
            }
            return x;
        }, 40, x -> x.waiting());
        Refused.taken("22, one waits on though another one counts", () -> {
            SalesDesk x = asking(10, 50, 0).get();
            x.quote(0, 0, 0);
            return x;
        }, 1, x -> x.waiting());
    }

    private static void worths() {
        worth("its amount, if no quote counts", 1000000, 1000000, -1);
        worth("less no discount", 12345, 12345, 0);
        worth("divided evenly", 900, 1000, 10);
        worth("rounded down from .99", 0, 1, 1);
        worth("rounded down from 989.01", 989, 999, 1);
        worth("rounded down from 499.5", 499, 999, 50);
        worth("rounded down from 88.78", 88, 193, 54);
        worth("the largest amount less 1", 990000, 1000000, 1);
        worth("the largest amount less 99", 10000, 1000000, 99);
        worth("rounded down from 9999.99", 9999, 999999, 99);
        worth("rounded down from .01", 0, 1, 99);
        worth("rounded down from .99, of 99", 0, 99, 99);
        worth("just 1", 1, 100, 99);
        worth("670, no less by the way it is divided", 670, 1000, 33);
    }

    private static void worth(String words, int due, int amount, int discount) {
        Check.sentence("16, the worth: " + words, () -> {
            SalesDesk x = Desks.chainOf(99);
            x.addChance(0, 0, amount);
            if (discount >= 0) {
                x.quote(0, 0, discount);
            }
            Check.due("worth(0)", due, x.worth(0));
            Check.due("inRegion(0, 0)", due, x.inRegion(0, 0));
            x.quote(0, 0, Math.max(0, discount));
            for (int stage = 1; stage <= 4; stage++) {
                x.move(0, stage);
            }
            Check.due("worth(0), won", due, x.worth(0));
            Check.due("won(0)", due, x.won(0));
            Check.due("own(0), all of it", due, x.own(0));
        });
    }

    private static void partsRounded() {
        Check.sentence("the part is rounded down, before the weight", () -> {
            SalesDesk x = Desks.chainOf(99, 0);
            x.addChance(0, 0, 199);
            x.giveShare(0, 0, 1, 50);
            // Of 99.5 each has 99, of which 9.9; without the first rounding 9.95.
            Check.due("own(1)", 9, x.own(1));
            x.quote(0, 0, 0);
            for (int stage = 1; stage <= 4; stage++) {
                x.move(0, stage);
            }
            Check.due("own(0), won", 99, x.own(0));
            Check.due("own(1), won", 99, x.own(1));
            Check.due("forecast(0), won", 198, x.forecast(0));
        });
        // Of 3.34, 1.67 and 1.12 the weight would leave a little more than 1.
        partOf("3.34 at 30 hundredths", 334, 1, 0);
        partOf("1.67 at 60 hundredths", 167, 2, 0);
        partOf("1.12 at 90 hundredths", 112, 3, 0);
        partOf("4.00 at 30 hundredths, 1.2", 400, 1, 1);
        partOf("2.00 at 60 hundredths, 1.2", 200, 2, 1);
        partOf("2.00 at 90 hundredths, 1.8", 200, 3, 1);
        Check.sentence("the weight is taken of the part, not the share of the weighed worth", () -> {
            SalesDesk x = Desks.chainOf(99, 0);
            x.addChance(0, 0, 19);
            x.giveShare(0, 0, 1, 53);
            // 10.07 down to 10, of which just 1; 8.93 down to 8, of which 0.8.
            Check.due("own(1)", 1, x.own(1));
            Check.due("own(0)", 0, x.own(0));
        });
        Check.sentence("each chance is rounded down, not the sum", () -> {
            SalesDesk x = Desks.chainOf(0);
            for (int i = 0; i < 30; i++) {
                x.addChance(0, 0, 19);
            }
            Check.due("own(0)", 30, x.own(0));
            Check.due("forecast(0)", 30, x.forecast(0));
        });
        Check.sentence("the worth is rounded down, then the part", () -> {
            SalesDesk x = Desks.chainOf(50, 0);
            x.addChance(0, 0, 201);
            x.quote(0, 0, 50);
            x.giveShare(0, 0, 1, 99);
            // 100.5 down to 100, of which just 99; of 100.5 they were 99.495, and won 99 too.
            for (int stage = 1; stage <= 4; stage++) {
                x.move(0, stage);
            }
            Check.due("own(1)", 99, x.own(1));
            Check.due("own(0)", 1, x.own(0));
        });
    }

    /** One hundredth of an amount, in a stage. */
    private static void partOf(String words, int amount, int stage, int due) {
        Check.sentence("the part is rounded down, then weighed: " + words, () -> {
            SalesDesk x = Desks.chainOf(99, 0);
            x.addChance(0, 0, amount);
            x.giveShare(0, 0, 1, 1);
            Desks.bring(x, 0, stage);
            Check.due("own(1)", due, x.own(1));
            Check.due("forecast(1)", due, x.forecast(1));
        });
    }

    private static void weights() {
        int[] due = {100, 300, 600, 900, 1000, 0};
        for (int stage = 0; stage <= 5; stage++) {
            int in = stage;
            Check.sentence("the weight of stage " + stage, () -> {
                SalesDesk x = Desks.inStage(in);
                Check.due("own(2)", due[in], x.own(2));
                Check.due("own(0)", 0, x.own(0));
                Check.due("forecast(0)", due[in], x.forecast(0));
            });
        }
    }

    private static void layers() {
        Check.sentence("23, the own one, all right below, and the adjustment", () -> {
            SalesDesk x = Desks.chainOf(0, 0);
            x.addSeller(0, 0);
            x.addChance(0, 0, 1000);
            x.addChance(0, 1, 2000);
            x.addChance(0, 2, 4000);
            x.adjust(0, 7);
            x.adjust(1, 10000);
            x.adjust(2, 20000);
            Check.due("forecast(0)", 30707, x.forecast(0));
            Check.due("forecast(1)", 10200, x.forecast(1));
            Check.due("forecast(2)", 20400, x.forecast(2));
            Check.due("own(0)", 100, x.own(0));
        });
        Check.sentence("23, through all eight layers", () -> {
            SalesDesk x = Desks.chainOf(0, 0, 0, 0, 0, 0, 0, 0);
            x.addChance(0, 7, 1000);
            for (int i = 0; i < 8; i++) {
                x.adjust(i, 1 << i);
            }
            for (int i = 0; i < 8; i++) {
                Check.due("forecast(" + i + ")", 100 + 256 - (1 << i), x.forecast(i));
            }
        });
        Check.sentence("23, not those above or beside", () -> {
            SalesDesk x = Desks.chainOf(0, 0);
            x.addSeller(0, 0);
            x.addSeller(-1, 0);
            x.adjust(0, 1000);
            x.adjust(2, 200);
            x.adjust(3, 30);
            Check.due("forecast(1)", 0, x.forecast(1));
            Check.due("forecast(3)", 30, x.forecast(3));
            Check.due("forecast(0)", 1200, x.forecast(0));
        });
        Check.sentence("9, the adjustment is 0 at first, and set, not added", () -> {
            SalesDesk x = Desks.chainOf(0);
            Check.due("adjust(0, 5)", 0, x.adjust(0, 5));
            Check.due("adjust(0, 5)", 5, x.adjust(0, 5));
            Check.due("forecast(0)", 5, x.forecast(0));
            Check.due("adjust(0, 0)", 5, x.adjust(0, 0));
            Check.due("forecast(0)", 0, x.forecast(0));
        });
        Check.sentence("23, the least there is", () -> {
            SalesDesk x = Desks.chainOf(0, 0, 0, 0, 0, 0, 0, 0);
            for (int i = 0; i < 8; i++) {
                x.adjust(i, -1000000);
            }
            Check.due("forecast(0)", -8000000, x.forecast(0));
        });
        Check.sentence("23 and 26, the largest there is, and its fall to the least", () -> {
            SalesDesk x = Desks.chainOf(0, 0, 0, 0, 0, 0, 0, 0);
            for (int i = 0; i < 30; i++) {
                x.addChance(0, 7, 1000000);
                Desks.bring(x, i, 4);
            }
            for (int i = 0; i < 8; i++) {
                x.adjust(i, 1000000);
            }
            Check.due("own(7)", 30000000, x.own(7));
            Check.due("forecast(0)", 38000000, x.forecast(0));
            x.freeze();
            for (int i = 0; i < 8; i++) {
                x.adjust(i, -1000000);
            }
            Check.due("since(0, 0)", -16000000, x.since(0, 0));
        });
    }

    private static void growth() {
        Check.sentence("26, a seller who was added after the freeze counts from 0", () -> {
            SalesDesk x = Desks.chainOf(0);
            x.adjust(0, 500);
            x.freeze();
            x.addSeller(-1, 0);
            Check.due("since(0, 1)", 0, x.since(0, 1));
            x.adjust(1, 40);
            Check.due("since(0, 1)", 40, x.since(0, 1));
            Check.due("since(0, 0)", 0, x.since(0, 0));
        });
        Check.sentence("26, added after one freeze and before the next", () -> {
            SalesDesk x = Desks.chainOf(0);
            x.freeze();
            x.addSeller(0, 0);
            x.adjust(1, 40);
            x.freeze();
            x.adjust(1, 100);
            Check.due("since(0, 1)", 100, x.since(0, 1));
            Check.due("since(1, 1)", 60, x.since(1, 1));
            Check.due("since(0, 0), with one who was added below", 100, x.since(0, 0));
            Check.due("since(1, 0)", 60, x.since(1, 0));
        });
        Check.sentence("26, seven sellers added after the freeze", () -> {
            SalesDesk x = Desks.chainOf(0);
            x.adjust(0, 9);
            x.freeze();
            for (int i = 1; i < 8; i++) {
                x.addSeller(-1, 0);
                x.adjust(i, i);
            }
            for (int i = 1; i < 8; i++) {
                Check.due("since(0, " + i + ")", i, x.since(0, i));
            }
        });
        Check.sentence("26, nothing grown, and shrunk below 0", () -> {
            SalesDesk x = Desks.inStage(1);
            x.freeze();
            Check.due("since(0, 2)", 0, x.since(0, 2));
            x.move(0, 5);
            Check.due("since(0, 2)", -300, x.since(0, 2));
            Check.due("since(0, 0)", -300, x.since(0, 0));
        });
        Check.sentence("25, the forecasts as they are: own, below and adjustment", () -> {
            SalesDesk x = Desks.inStage(1);
            x.adjust(1, 20);
            x.freeze();
            x.adjust(1, 0);
            x.move(0, 0);
            Check.due("since(0, 0)", -220, x.since(0, 0));
            Check.due("since(0, 1)", -220, x.since(0, 1));
            Check.due("since(0, 2)", -200, x.since(0, 2));
        });
        Check.sentence("25, a freeze is kept as it was whatever comes", () -> {
            SalesDesk x = Desks.chainOf(0);
            for (int i = 0; i < 20; i++) {
                x.adjust(0, i * i);
                Check.due("freeze()", i, x.freeze());
            }
            x.adjust(0, 0);
            for (int i = 0; i < 20; i++) {
                Check.due("since(" + i + ", 0)", -i * i, x.since(i, 0));
            }
        });
    }
}
