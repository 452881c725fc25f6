import java.lang.reflect.InvocationTargetException;
import java.lang.reflect.Method;
import java.util.HashMap;
import java.util.Map;
import java.util.Random;

/**
 * Long runs of calls, with right and wrong arguments, each answer compared with the model's. As
 * many of the calls throw, a call that throws and still changes something shows in later answers.
 */
public final class ModelTest {
    private static final int RUNS = 3000;
    private static final int CALLS = 512;

    /** The calls by how often they come; a name stands as often as its weight says. */
    private static final String[] NAMES = {
        "pass", "pass", "pass", "addAccount", "putRule", "putRule", "removeRule", "except",
        "regionOf", "regionOf", "addSeller", "adjust", "addChance", "addChance", "giveShare",
        "giveShare", "move", "move", "move", "move", "move", "move", "stage", "daysIn", "daysIn",
        "stalled", "stalled", "worth", "inRegion", "inRegion", "won", "won", "quote", "quote",
        "approve", "approve", "approve", "counting", "waiting", "forecast", "forecast", "own",
        "own", "freeze", "since", "since",
    };

    private static final Map<String, Method> FACE = new HashMap<>();
    /** Each counted by "name=answered" or "name=exception", so that no kind is left out. */
    private static final Map<String, Integer> SEEN = new HashMap<>();

    public static void main(String[] args) throws Exception {
        for (Method method : SalesDesk.class.getMethods()) {
            FACE.put(method.getName(), method);
        }
        for (int run = 0; run < RUNS; run++) {
            run(run);
        }
        everyKindSeen();
        Check.end();
    }

    private static void run(int run) throws Exception {
        Random random = new Random(run);
        SalesDesk desk = new SalesDesk();
        Model model = new Model();
        // Some runs go wrong seldom, so that they get far; others often.
        int wrongIn = run % 3 == 0 ? 4 : 40;
        // Long days in some runs, to reach the last one.
        int farthest = run % 5 == 0 ? 1000 : 6;
        // Every second run has a call that comes often, so that its limit is reached.
        String often = run % 2 == 0 ? NAMES[random.nextInt(NAMES.length)] : "";
        for (int i = 0; i < CALLS; i++) {
            String name = i < 12 ? start(i) : next(random, often);
            int[] arguments = new Arguments(random, wrongIn, farthest).of(name);
            String due = ofModel(model, name, arguments);
            String got = ofDesk(desk, name, arguments);
            SEEN.merge(name + "=" + (isNumber(due) ? "answered" : due), 1, Integer::sum);
            String call = "run " + run + ", call " + i + ": " + name
                    + java.util.Arrays.toString(arguments);
            Check.holds(call + " answered " + got + ", due is " + due, got.equals(due));
            if (!got.equals(due)) {
                return;
            }
        }
    }

    private static String start(int call) {
        return call % 3 == 0 ? "addAccount" : call % 3 == 1 ? "addSeller" : "addChance";
    }

    private static String next(Random random, String often) {
        boolean favoured = !often.isEmpty() && random.nextInt(2) == 0;
        return favoured ? often : NAMES[random.nextInt(NAMES.length)];
    }

    private static boolean isNumber(String answer) {
        return !answer.endsWith("Exception");
    }

    private static String ofModel(Model model, String name, int[] arguments) {
        try {
            return "" + model.call(name, arguments);
        } catch (RuntimeException e) {
            return e.getClass().getName();
        }
    }

    private static String ofDesk(SalesDesk desk, String name, int[] arguments) throws Exception {
        Object[] boxed = new Object[arguments.length];
        for (int i = 0; i < boxed.length; i++) {
            boxed[i] = arguments[i];
        }
        try {
            Object answer = FACE.get(name).invoke(desk, boxed);
            return answer == null ? "0" : answer.toString();
        } catch (InvocationTargetException e) {
            Throwable thrown = e.getCause();
            return thrown.getClass().getName()
                    + (Check.isThrownByDesk(thrown) ? "" : " that the desk did not throw");
        }
    }

    private static void everyKindSeen() {
        for (String name : NAMES) {
            seen(name, "answered");
            for (Class<?> kind : FACE.get(name).getExceptionTypes()) {
                seen(name, kind.getName());
            }
        }
    }

    private static void seen(String name, String kind) {
        Check.holds("no run saw " + name + " with " + kind, SEEN.containsKey(name + "=" + kind));
    }

    /** Arguments that are mostly right, and wrong once in so many. */
    private static final class Arguments {
        private final Random random;
        private final int wrongIn;
        private final int farthest;

        Arguments(Random random, int wrongIn, int farthest) {
            this.random = random;
            this.wrongIn = wrongIn;
            this.farthest = farthest;
        }

        int[] of(String name) {
            switch (name) {
                case "pass": return row(in(1, farthest, 1000));
                case "addAccount": return row(in(-1, 4), in(0, 9), in(0, 9));
                case "putRule":
                    return row(in(0, 3), in(0, 6), in(3, 9), in(0, 9), in(0, 3));
                case "removeRule": return row(in(0, 3));
                case "except": return row(in(0, 9), in(-1, 3));
                case "regionOf": return row(in(0, 9));
                case "addSeller": return row(in(-1, 4), in(0, 99));
                case "adjust": return row(in(0, 6), money());
                case "addChance": return row(in(0, 6), in(0, 5), Math.max(1, money()));
                case "giveShare": return row(in(0, 8), in(0, 5), in(0, 5), in(1, 70, 100));
                case "move": return row(in(0, 8), random.nextInt(3) == 0 ? in(0, 5) : in(1, 4));
                case "stage": return row(in(0, 9));
                case "daysIn": return row(in(0, 8), in(0, 5));
                case "stalled": return row(in(0, 2 * farthest, 100000));
                case "worth": return row(in(0, 9));
                case "inRegion": return row(in(0, 3), in(0, 5));
                case "won": return row(in(0, 9));
                case "quote": return row(in(0, 8), in(0, 5), in(0, 99));
                case "approve": return row(in(0, 25), in(0, 4));
                case "counting": return row(in(0, 9));
                case "forecast": case "own": return row(in(0, 5));
                case "since": return row(in(0, 5), in(0, 6));
                default: return row();
            }
        }

        private static int[] row(int... values) {
            return values;
        }

        private int money() {
            int most = random.nextInt(4) == 0 ? 1000000 : 999;
            return in(-most, most, 1000000);
        }

        private int in(int least, int most) {
            return in(least, most, most);
        }

        /** A number from least to most, or once in so many one at or beyond an edge. */
        private int in(int least, int most, int edge) {
            if (random.nextInt(wrongIn) != 0) {
                return least + random.nextInt(most - least + 1);
            }
            switch (random.nextInt(6)) {
                case 0: return least - 1;
                case 1: return edge + 1;
                case 2: return edge;
                case 3: return least;
                case 4: return random.nextInt();
                default: return random.nextBoolean() ? Integer.MAX_VALUE : Integer.MIN_VALUE;
            }
        }
    }
}
