import java.util.function.Supplier;

/**
 * No change but those that the document describes: a call that only asks changes nothing, and what
 * is done and taken back leaves all else as it was.
 */
public final class QuestionsTest {
    private static final Supplier<SalesDesk> MIXED = Desks.MIXED;
    private static final Supplier<SalesDesk> FULL = Desks.FULL;

    public static void main(String[] args) {
        questions("mixed", MIXED, 2, 3, 2, 0);
        questions("full", FULL, 15, 29, 7, 19);
        askedTwice();
        takenBack();
        Check.end();
    }

    private static void asks(String words, Supplier<SalesDesk> desk, Refused.On call) {
        Refused.unchanged(words + " changes nothing", desk, x -> {
            int first = call.call(x);
            Check.due(words + ", asked again", first, call.call(x));
        });
    }

    /** Asks of the first and the last of each, as far as they can be asked. */
    private static void questions(String kind, Supplier<SalesDesk> desk, int account, int chance,
            int seller, int freeze) {
        for (int one : new int[] {0, account}) {
            asks("7, regionOf of a " + kind + " desk", desk, x -> x.regionOf(one));
            asks("18, won of a " + kind + " desk", desk, x -> x.won(one));
        }
        for (int one : new int[] {0, 1, 2, chance}) {
            asks("13, stage of a " + kind + " desk", desk, x -> x.stage(one));
            asks("16, worth of a " + kind + " desk", desk, x -> x.worth(one));
            for (int stage = 0; stage <= 5; stage++) {
                int in = stage;
                asks("14, daysIn of a " + kind + " desk", desk, x -> x.daysIn(one, in));
            }
        }
        for (int region = 0; region <= 3; region++) {
            int its = region;
            asks("17, inRegion of a " + kind + " desk", desk, x -> x.inRegion(its, 4));
        }
        for (int one : new int[] {0, seller}) {
            asks("23, forecast of a " + kind + " desk", desk, x -> x.forecast(one));
            asks("24, own of a " + kind + " desk", desk, x -> x.own(one));
            asks("26, since of a " + kind + " desk", desk, x -> x.since(freeze, one));
        }
        asks("15, stalled of a " + kind + " desk", desk, x -> x.stalled(1));
        asks("22, waiting of a " + kind + " desk", desk, x -> x.waiting());
        asks("21, counting of a " + kind + " desk", desk,
                x -> x.counting(desk == MIXED ? 1 : chance));
    }

    private static void askedTwice() {
        Check.sentence("as long as nothing is done, the answers stay", () -> {
            SalesDesk x = MIXED.get();
            for (int i = 0; i < 20; i++) {
                Check.due("regionOf(2)", 2, x.regionOf(2));
                Check.due("daysIn(0, 1)", 2, x.daysIn(0, 1));
                Check.due("daysIn(0, 0)", 13, x.daysIn(0, 0));
                Check.due("stalled(1)", 2, x.stalled(1));
                Check.due("worth(1)", 900, x.worth(1));
                Check.due("inRegion(3, 4)", 900, x.inRegion(3, 4));
                Check.due("won(0)", 900, x.won(0));
                Check.due("counting(1)", 0, x.counting(1));
                Check.due("waiting()", 1, x.waiting());
                Check.due("forecast(0)", 1317, x.forecast(0));
                Check.due("own(2)", 280, x.own(2));
                Check.due("since(0, 0)", 200, x.since(0, 0));
            }
        });
    }

    private static void takenBack() {
        for (int place = 0; place <= 2; place++) {
            int at = place;
            Refused.unchanged("4 and 5, a rule put at " + place + " and removed", MIXED, x -> {
                x.putRule(at, 0, 9, 0, 3);
                x.removeRule(at);
            });
        }
        Refused.unchanged("6, an exception told and taken away", MIXED, x -> {
            x.except(1, 3);
            x.except(1, -1);
        });
        Refused.unchanged("6, another exception told, and the one before", MIXED, x -> {
            x.except(0, 1);
            x.except(0, 3);
        });
        Refused.unchanged("6, the same exception told again", FULL, x -> x.except(15, 2));
        Refused.unchanged("9, another adjustment set, and the one before", MIXED, x -> {
            x.adjust(1, -1000000);
            x.adjust(1, 17);
        });
        Refused.unchanged("9, the same adjustment set again", FULL, x -> x.adjust(7, 5));
        Refused.unchanged("11, a part given and given back", MIXED, x -> {
            x.giveShare(0, 2, 0, 60);
            x.giveShare(0, 0, 2, 60);
        });
        Refused.unchanged("11, a part given and given back, on the last day", FULL, x -> {
            x.giveShare(29, 5, 7, 100);
            x.giveShare(29, 7, 5, 100);
        });
    }
}
