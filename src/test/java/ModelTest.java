import java.lang.reflect.InvocationTargetException;
import java.lang.reflect.Method;
import java.util.Arrays;

/** Long made-up runs of calls, each answer of the class held against that of the Model. */
public final class ModelTest {
    private static final int RUNS = 500;
    private static final int CALLS = 512;

    private static final String[] NAMES = {"token", "erase", "written", "line", "run", "output", "complete", "kept",
        "recall", "search", "rule", "correct", "ofNode", "number", "ofJob", "signal", "many", "meanNumber", "dry",
        "dryWith", "overIn", "far", "digest"};

    private long seed;
    private int calls;

    private ModelTest(long seed) {
        this.seed = seed;
    }

    public static void main(String[] args) {
        int wrong = 0;
        int[] answered = new int[NAMES.length];
        int[] thrown = new int[NAMES.length];
        for (int run = 0; run < RUNS && wrong < 5; run++) {
            wrong += new ModelTest(run * 7919L + 1).oneRun(run, answered, thrown);
        }
        for (int call = 0; call < NAMES.length; call++) {
            if (answered[call] == 0) {
                wrong++;
                System.out.println("ModelTest: " + NAMES[call] + " never answered");
            }
        }
        System.out.println("ModelTest: " + (wrong == 0 ? "all answers are as due" : wrong + " runs are not as due")
            + "; answers " + Arrays.toString(answered) + ", throws " + Arrays.toString(thrown));
        if (wrong != 0) {
            System.exit(1);
        }
    }

    private int below(int bound) {
        seed = seed * 6364136223846793005L + 1442695040888963407L;
        return (int) ((seed >>> 33) % bound);
    }

    private int oneRun(int run, int[] answered, int[] thrown) {
        ShellsmithRoom room = new ShellsmithRoom();
        Model model = new Model();
        int[] waiting = new int[0];
        int names = 2 + below(4);
        // Two at most are made in a round: what an object answers behind its 512th call is free.
        while (calls < CALLS - 1) {
            int call;
            int a = 0;
            int b = 0;
            if (waiting.length > 0) {
                call = waiting[0] < 0 ? 4 : 0;
                a = waiting[0];
                waiting = Arrays.copyOfRange(waiting, 1, waiting.length);
            } else if (below(3) > 0 && model.many(6) == 0) {
                waiting = madeLine(names);
                continue;
            } else {
                call = below(10) == 0 ? 4 : below(NAMES.length);
                a = argument(call, model);
                b = secondArgument(call);
            }
            String got = answer(room, call, a, b);
            String want = answer(model, call, a, b);
            calls++;
            (got.startsWith("throws") ? thrown : answered)[call]++;
            if (got.equals(want) && (below(8) > 0 || sameDigest(room, model))) {
                continue;
            }
            System.out.println("ModelTest: run " + run + ", call " + calls + ": " + NAMES[call] + "(" + a + ", " + b
                + ") answered " + got + ", the Model " + want + (got.equals(want) ? ", but the digests differ" : ""));
            return 1;
        }
        return 0;
    }

    private boolean sameDigest(ShellsmithRoom room, Model model) {
        calls++;
        return room.digest() == model.digest();
    }

    /** A LINE, mostly a good one, and -1 behind it if it is to be run. */
    private int[] madeLine(int names) {
        int[] words = new int[40];
        int size = 0;
        int commands = 1 + below(4);
        for (int command = 0; command < commands; command++) {
            if (command > 0) {
                words[size++] = 30 + below(3);
            }
            boolean piped = command > 0 && words[size - 1] == 30;
            int verb = 20 + below(piped || below(30) == 0 ? 8 : 5);
            verb = below(8) == 0 ? 27 : verb;
            words[size++] = verb;
            size = arguments(words, size, verb, names);
        }
        if (below(6) == 0) {
            words[size++] = 33;
        }
        size = Math.min(size, 16);
        if (below(6) == 0) {
            words[below(size)] = anyToken();
        }
        if (below(12) == 0) {
            size = 1 + below(size);
        }
        int[] made = Arrays.copyOf(words, size + 1);
        made[size] = -1;
        return below(4) == 0 ? Arrays.copyOf(words, size) : made;
    }

    private int arguments(int[] words, int from, int verb, int names) {
        int size = from;
        if (verb == 25 || verb == 26) {
            return size;
        }
        if (verb == 27) {
            words[size++] = 41 + below(below(3) == 0 ? 9 : 2);
            return size;
        }
        int path = 1 + below(below(3) + 1);
        for (int k = 0; k < path; k++) {
            words[size++] = below(5) == 0 ? 10 : below(names);
        }
        if ((verb == 22 || verb == 23) && below(4) == 0) {
            words[size - 1] = 11;
        }
        for (int k = below(6); verb == 21 && k > 0; k--) {
            words[size++] = 40 + below(60);
        }
        return size;
    }

    private int anyToken() {
        int[] groups = {below(10), 10 + below(2), 20 + below(8), 30 + below(4), 40 + below(60)};
        return groups[below(groups.length)];
    }

    private int argument(int call, Model model) {
        switch (NAMES[call]) {
            case "token":
            case "search":
            case "rule":
                return below(10) == 0 ? below(110) - 5 : anyToken();
            case "erase":
                return below(10) == 0 ? below(20) - 1 : 1 + below(3);
            case "ofNode":
            case "number":
            case "far":
                return below(10) == 0 ? below(28) - 2 : below(8);
            case "overIn":
                return below(4) == 0 ? below(64) - 1 : 1 + below(12);
            case "complete":
                return below(4) == 0 ? below(90) - 2 : below(12);
            case "dryWith":
            case "written":
                return below(Math.max(1, model.many(6)) + 1) - below(2);
            case "kept":
            case "recall":
                return below(14) - 1;
            case "ofJob":
            case "signal":
                return below(5) - 1;
            default:
                return below(12) - 1;
        }
    }

    private int secondArgument(int call) {
        switch (NAMES[call]) {
            case "search":
                return below(3) == 0 ? -1 : below(10) == 0 ? below(110) - 5 : anyToken();
            case "dryWith":
                return below(10) == 0 ? below(110) - 5 : anyToken();
            case "signal":
                return below(4) == 0 ? below(5) - 1 : below(2);
            case "ofNode":
            case "ofJob":
                return below(6) - 1;
            default:
                return below(10) - 1;
        }
    }

    /** Calls by name: the class and its Model share no type, but the names of their calls. */
    private static String answer(Object x, int call, int a, int b) {
        try {
            for (Method method : x.getClass().getDeclaredMethods()) {
                if (method.getName().equals(NAMES[call])) {
                    Object[] arguments = {a, b};
                    return String.valueOf(method.invoke(x, Arrays.copyOf(arguments, method.getParameterCount())));
                }
            }
            throw new AssertionError("no call " + NAMES[call]);
        } catch (InvocationTargetException thrown) {
            return "throws " + thrown.getCause().getClass().getName();
        } catch (IllegalAccessException hidden) {
            throw new AssertionError(hidden);
        }
    }
}
