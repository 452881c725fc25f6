/** Counts the answers that are not the ones that are due, and prints each of them. */
final class Check {
    interface Call {
        long answer();
    }

    interface Act {
        void run();
    }

    static final Class<?> RANGE = IllegalArgumentException.class;
    static final Class<?> STATE = IllegalStateException.class;
    static final Class<?> INDEX = IndexOutOfBoundsException.class;
    static final Class<?> NOTHING_THERE = java.util.NoSuchElementException.class;

    private static int checked = 0;
    private static int wrong = 0;
    private static int sentences = 0;
    /** The sentence of the document that is looked at, before each wrong answer. */
    private static String sentence = "";

    private Check() {
    }

    /** Tests one sentence of the document by itself; a test that checks nothing is wrong too. */
    static void sentence(String words, Act test) {
        sentence = words + ": ";
        sentences++;
        int before = checked;
        try {
            test.run();
        } catch (RuntimeException e) {
            wrong("threw " + e);
        }
        if (checked == before) {
            wrong("nothing was checked");
        }
        sentence = "";
    }

    static void due(String call, long want, long got) {
        checked++;
        if (got != want) {
            wrong(call + " answered " + got + ", due is " + want);
        }
    }

    static void holds(String what, boolean does) {
        checked++;
        if (!does) {
            wrong(what);
        }
    }

    /** The class must be the very one that the document names, not one below it. */
    static void fails(String call, Class<?> kind, Call asked) {
        checked++;
        try {
            wrong(call + " answered " + asked.answer() + ", due is " + kind.getName());
        } catch (RuntimeException e) {
            if (e.getClass() != kind) {
                wrong(call + " threw " + e + ", due is " + kind.getName());
            } else if (!isThrownByDesk(e)) {
                wrong(call + " left it to the library to throw " + e);
            }
        }
    }

    static void failsToRun(String call, Class<?> kind, Act asked) {
        fails(call, kind, () -> {
            asked.run();
            return 0;
        });
    }

    /** The class throws by itself; what a list or the machine throws has another first frame. */
    static boolean isThrownByDesk(Throwable e) {
        StackTraceElement[] frames = e.getStackTrace();
        return frames.length > 0 && frames[0].getClassName().startsWith("SalesDesk");
    }

    private static void wrong(String what) {
        wrong++;
        if (wrong <= 50) {
            System.out.println(sentence + what);
        }
    }

    /** Ends the test, with exit code 1 if an answer was wrong. */
    static void end() {
        String told = sentences == 0 ? "" : sentences + " sentences, ";
        System.out.println(told + checked + " checks, " + wrong + " wrong");
        if (wrong != 0 || checked == 0) {
            System.exit(1);
        }
    }
}
