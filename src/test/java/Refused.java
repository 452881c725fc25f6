import java.util.ArrayList;
import java.util.IdentityHashMap;
import java.util.List;
import java.util.Map;
import java.util.function.Supplier;

/**
 * Sentences about calls that are refused or that only ask, which change nothing, and about the last
 * that are taken.
 */
final class Refused {
    interface On {
        int call(SalesDesk x);
    }

    interface Calls {
        void on(SalesDesk x);
    }

    interface With {
        int call(SalesDesk x, int value);
    }

    /** What desks that are made in one way answer, for the ways that come again and again. */
    private static final Map<Supplier<SalesDesk>, List<List<String>>> SEEN = new IdentityHashMap<>();

    private Refused() {
    }

    /** The call throws what is named, and the desk is then like one on which it was not made. */
    static void refused(String words, Supplier<SalesDesk> desk, Class<?> kind, On call) {
        unchanged(words, desk, x -> Check.fails("the call", kind, () -> call.call(x)));
    }

    /** At most two calls, behind which the desk is like one on which they were not made. */
    static void unchanged(String words, Supplier<SalesDesk> desk, Calls calls) {
        Check.sentence(words, () -> {
            List<List<String>> due = SEEN.computeIfAbsent(desk, Refused::views);
            for (int part = 0; part < View.PARTS; part++) {
                SalesDesk x = desk.get();
                calls.on(x);
                List<String> got = View.of(x, part);
                Check.holds("the call changed " + change(due.get(part), got),
                        due.get(part).equals(got));
            }
        });
    }

    static void taken(String words, Supplier<SalesDesk> desk, int due, On call) {
        Check.sentence(words, () -> Check.due("the call", due, call.call(desk.get())));
    }

    /**
     * The range of an argument: its least and its largest value are taken, with the answers that
     * are due, and what is below or above is refused.
     */
    static void range(String words, Supplier<SalesDesk> desk, Class<?> kind, With call,
            int least, int dueLeast, int most, int dueMost) {
        taken(words + ", " + least + " is taken", desk, dueLeast, x -> call.call(x, least));
        taken(words + ", " + most + " is taken", desk, dueMost, x -> call.call(x, most));
        int[] wrong = {least - 1, most + 1, Integer.MIN_VALUE, Integer.MAX_VALUE};
        for (int value : wrong) {
            refused(words + ", " + value + " is refused", desk, kind, x -> call.call(x, value));
        }
    }

    private static List<List<String>> views(Supplier<SalesDesk> desk) {
        List<List<String>> views = new ArrayList<>();
        for (int part = 0; part < View.PARTS; part++) {
            views.add(View.of(desk.get(), part));
        }
        return views;
    }

    private static String change(List<String> due, List<String> got) {
        for (int i = 0; i < due.size() && i < got.size(); i++) {
            if (!due.get(i).equals(got.get(i))) {
                return "'" + due.get(i) + "' to '" + got.get(i) + "'";
            }
        }
        return "the number of answers";
    }
}
