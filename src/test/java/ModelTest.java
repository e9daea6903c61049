import java.lang.reflect.InvocationTargetException;
import java.lang.reflect.Method;
import java.util.Arrays;

/** Long made-up runs of calls, each answer of the class held against that of the Model. */
public final class ModelTest {
    private static final int RUNS = 500;
    private static final int CALLS = 512;

    // What waits to be called, beside TOKENS.
    private static final int RUN = -1;
    private static final int CORRECT = -2;

    private static final String[] NAMES = {"token", "erase", "written", "line", "run", "output", "complete", "kept",
        "recall", "search", "rule", "correct", "ofNode", "number", "ofJob", "signal", "many", "meanNumber", "dry",
        "dryWith", "overIn", "far", "digest"};

    private static int runsWithAllNodes;
    private static int corrected;
    private static int jobsOver;

    private long seed;
    private int calls;

    private ModelTest(long seed) {
        this.seed = seed;
    }

    public static void main(String[] args) {
        int wrong = 0;
        int[] answered = new int[NAMES.length];
        int[] thrown = new int[NAMES.length];
        for (int run = 0; run < RUNS && wrong < 5; run++) {
            wrong += new ModelTest(run * 7919L + 1).oneRun(run, answered, thrown);
        }
        for (int call = 0; call < NAMES.length; call++) {
            if (answered[call] == 0) {
                wrong++;
                System.out.println("ModelTest: " + NAMES[call] + " never answered");
            }
        }
        wrong += reached("a LINE was run with all NODES there", runsWithAllNodes);
        wrong += reached("a LINE was CORRECTED", corrected);
        wrong += reached("a JOB was over by itself", jobsOver);
        System.out.println("ModelTest: " + (wrong == 0 ? "all answers are as due" : wrong + " runs are not as due")
            + "; answers " + Arrays.toString(answered) + ", throws " + Arrays.toString(thrown));
        if (wrong != 0) {
            System.exit(1);
        }
    }

    private static int reached(String what, int times) {
        System.out.println("ModelTest: " + times + " times " + what);
        return times > 0 ? 0 : 1;
    }

    private int below(int bound) {
        seed = seed * 6364136223846793005L + 1442695040888963407L;
        return (int) ((seed >>> 33) % bound);
    }

    private int oneRun(int run, int[] answered, int[] thrown) {
        ShellsmithRoom room = new ShellsmithRoom();
        Model model = new Model();
        boolean fills = run % 3 == 1;
        boolean mistypes = run % 3 == 2;
        int[] waiting = fills ? fillingLines() : new int[0];
        int names = fills ? 10 : 2 + below(4);
        // Two at most are made in a round: what an object answers behind its 512th call is free.
        while (calls < CALLS - 1) {
            int call;
            int a = 0;
            int b = 0;
            if (waiting.length > 0) {
                call = waiting[0] == RUN ? 4 : waiting[0] == CORRECT ? 11 : 0;
                a = waiting[0];
                waiting = Arrays.copyOfRange(waiting, 1, waiting.length);
            } else if (below(3) > 0 && model.many(6) == 0) {
                waiting = mistypes && below(2) == 0 ? mistypedLine(names) : madeLine(names);
                continue;
            } else {
                call = below(10) == 0 ? 4 : below(NAMES.length);
                a = argument(call, model);
                b = secondArgument(call);
            }
            String got = answer(room, call, a, b);
            String want = answer(model, call, a, b);
            calls++;
            boolean threw = got.startsWith("throws");
            (threw ? thrown : answered)[call]++;
            runsWithAllNodes += call == 4 && !threw && model.many(0) == 24 ? 1 : 0;
            corrected += call == 11 && !got.equals("-1") ? 1 : 0;
            if (got.equals(want) && (below(8) > 0 || sameDigest(room, model))) {
                continue;
            }
            System.out.println("ModelTest: run " + run + ", call " + calls + ": " + NAMES[call] + "(" + a + ", " + b
                + ") answered " + got + ", the Model " + want + (got.equals(want) ? ", but the digests differ" : ""));
            return 1;
        }
        jobsOver += model.many(9);
        return 0;
    }

    private boolean sameDigest(ShellsmithRoom room, Model model) {
        calls++;
        return room.digest() == model.digest();
    }

    /** LINES by which all NODES, or nearly all, come to be there. */
    private int[] fillingLines() {
        int[] made = new int[200];
        int size = 0;
        int inLine = 0;
        for (int node = 0; node < 23; node++) {
            int[] command = fillingCommand(node);
            if (node > 1 && below(60) == 0) {
                continue;
            }
            boolean fits = inLine > 0 && inLine + 1 + command.length <= 16;
            if (inLine > 0) {
                made[size++] = fits ? 30 : RUN;
            }
            inLine = (fits ? inLine + 1 : 0) + command.length;
            for (int token : command) {
                made[size++] = token;
            }
        }
        made[size++] = RUN;
        return Arrays.copyOf(made, size);
    }

    /** Ten in the NODE 0, two DIRECTORIES first; ten in the one of these, the rest in the other. */
    private int[] fillingCommand(int node) {
        int name = node % 10;
        if (node < 2) {
            return new int[] {20, name};
        }
        if (node < 10) {
            return below(3) == 0 ? new int[] {20, name} : new int[] {21, name, 40 + below(60)};
        }
        int directory = node < 20 ? 0 : 1;
        return below(3) == 0 ? new int[] {20, directory, name} : new int[] {21, directory, name, 40 + below(60)};
    }

    /** A LINE with another TOKEN in one place, the LINE itself, and the first one again, to be CORRECTED. */
    private int[] mistypedLine(int names) {
        int[] made = madeLine(names);
        int size = made[made.length - 1] == RUN ? made.length - 1 : made.length;
        int[] right = Arrays.copyOf(made, size + 1);
        int[] wrong = Arrays.copyOf(made, size + 1);
        wrong[below(size)] = below(2) == 0 ? below(12) : anyToken();
        right[size] = RUN;
        wrong[size] = RUN;
        int[] all = Arrays.copyOf(wrong, 3 * (size + 1) + 1);
        System.arraycopy(right, 0, all, size + 1, size + 1);
        System.arraycopy(wrong, 0, all, 2 * (size + 1), size);
        all[all.length - 2] = CORRECT;
        all[all.length - 1] = RUN;
        return all;
    }

    /** A LINE, mostly a good one, and RUN behind it if it is to be run. */
    private int[] madeLine(int names) {
        int[] words = new int[40];
        int size = 0;
        int commands = 1 + below(4);
        for (int command = 0; command < commands; command++) {
            if (command > 0) {
                words[size++] = 30 + below(3);
            }
            boolean piped = command > 0 && words[size - 1] == 30;
            int verb = 20 + below(piped || below(30) == 0 ? 8 : 5);
            verb = below(8) == 0 ? 27 : verb;
            words[size++] = verb;
            size = arguments(words, size, verb, names);
        }
        if (below(6) == 0) {
            words[size++] = 33;
        }
        size = Math.min(size, 16);
        if (below(6) == 0) {
            words[below(size)] = anyToken();
        }
        if (below(12) == 0) {
            size = 1 + below(size);
        }
        int[] made = Arrays.copyOf(words, size + 1);
        made[size] = RUN;
        return below(4) == 0 ? Arrays.copyOf(words, size) : made;
    }

    private int arguments(int[] words, int from, int verb, int names) {
        int size = from;
        if (verb == 25 || verb == 26) {
            return size;
        }
        if (verb == 27) {
            words[size++] = 41 + below(below(3) == 0 ? 9 : 2);
            return size;
        }
        int path = 1 + below(below(3) + 1);
        for (int k = 0; k < path; k++) {
            words[size++] = below(5) == 0 ? 10 : below(names);
        }
        if ((verb == 22 || verb == 23) && below(4) == 0) {
            words[size - 1] = 11;
        }
        for (int k = below(6); verb == 21 && k > 0; k--) {
            words[size++] = 40 + below(60);
        }
        return size;
    }

    private int anyToken() {
        int[] groups = {below(10), 10 + below(2), 20 + below(8), 30 + below(4), 40 + below(60)};
        return groups[below(groups.length)];
    }

    private int argument(int call, Model model) {
        switch (NAMES[call]) {
            case "token":
            case "search":
            case "rule":
                return below(10) == 0 ? below(110) - 5 : anyToken();
            case "erase":
                return below(10) == 0 ? below(20) - 1 : 1 + below(3);
            case "ofNode":
            case "number":
            case "far":
                return below(10) == 0 ? below(28) - 2 : below(8);
            case "overIn":
                return below(4) == 0 ? below(64) - 1 : 1 + below(12);
            case "output":
                return below(Math.max(1, model.many(7)) + 1) - below(2);
            case "complete":
                return below(4) == 0 ? below(90) - 2 : below(12);
            case "dryWith":
            case "written":
                return below(Math.max(1, model.many(6)) + 1) - below(2);
            case "kept":
            case "recall":
                return below(14) - 1;
            case "ofJob":
            case "signal":
                return below(5) - 1;
            default:
                return below(12) - 1;
        }
    }

    private int secondArgument(int call) {
        switch (NAMES[call]) {
            case "search":
                return below(3) == 0 ? -1 : below(10) == 0 ? below(110) - 5 : anyToken();
            case "dryWith":
                return below(10) == 0 ? below(110) - 5 : anyToken();
            case "signal":
                return below(4) == 0 ? below(5) - 1 : below(2);
            case "ofNode":
            case "ofJob":
                return below(6) - 1;
            default:
                return below(10) - 1;
        }
    }

    /** Calls by name: the class and its Model share no type, but the names of their calls. */
    private static String answer(Object x, int call, int a, int b) {
        try {
            for (Method method : x.getClass().getDeclaredMethods()) {
                if (method.getName().equals(NAMES[call])) {
                    Object[] arguments = {a, b};
                    return String.valueOf(method.invoke(x, Arrays.copyOf(arguments, method.getParameterCount())));
                }
            }
            throw new AssertionError("no call " + NAMES[call]);
        } catch (InvocationTargetException thrown) {
            return "throws " + thrown.getCause().getClass().getName();
        } catch (IllegalAccessException hidden) {
            throw new AssertionError(hidden);
        }
    }
}
