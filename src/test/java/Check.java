import java.util.function.IntSupplier;

/** What all tests use: LINES written as text, and a count of the answers that are not as due. */
final class Check {
    private static final String[] VERBS = {"MAKE", "WRITE", "SHOW", "TAKE", "GO", "SORT", "SUM", "WAIT"};
    private static final String[] JOINS = {"PIPE", "AND", "OR", "BEHIND"};

    private final String test;
    private int wrong;

    Check(String test) {
        this.test = test;
    }

    /** The TOKENS of a text: NAMES as digits, NUMBERS as #0 to #59, all others by their words. */
    static int[] tokens(String text) {
        String[] words = text.trim().isEmpty() ? new String[0] : text.trim().split(" +");
        int[] tokens = new int[words.length];
        for (int k = 0; k < words.length; k++) {
            tokens[k] = tokenOf(words[k]);
        }
        return tokens;
    }

    private static int tokenOf(String word) {
        for (int k = 0; k < VERBS.length; k++) {
            if (VERBS[k].equals(word)) {
                return 20 + k;
            }
        }
        for (int k = 0; k < JOINS.length; k++) {
            if (JOINS[k].equals(word)) {
                return 30 + k;
            }
        }
        if (word.equals("UP")) {
            return 10;
        }
        if (word.equals("STAR")) {
            return 11;
        }
        return word.startsWith("#") ? 40 + Integer.parseInt(word.substring(1)) : Integer.parseInt(word);
    }

    /** All that are TOKENS, from the smallest on. */
    static int[] allTokens() {
        int[] ends = {0, 11, 20, 27, 30, 33, 40, 99};
        int[] all = new int[84];
        int size = 0;
        for (int k = 0; k < ends.length; k += 2) {
            for (int token = ends[k]; token <= ends[k + 1]; token++) {
                all[size++] = token;
            }
        }
        return all;
    }

    /** Writes the TOKENS in place of the LINE that is there. */
    static void type(ShellsmithRoom room, String text) {
        room.erase(16);
        write(room, text);
    }

    /** Writes the TOKENS behind those that are there. */
    static void write(ShellsmithRoom room, String text) {
        for (int token : tokens(text)) {
            room.token(token);
        }
    }

    static int run(ShellsmithRoom room, String text) {
        type(room, text);
        return room.run();
    }

    /** A new object that has run these LINES. */
    static ShellsmithRoom after(String... lines) {
        ShellsmithRoom room = new ShellsmithRoom();
        for (String text : lines) {
            run(room, text);
        }
        return room;
    }

    static String output(ShellsmithRoom room) {
        StringBuilder all = new StringBuilder();
        for (int k = 0; k < room.many(7); k++) {
            all.append(k == 0 ? "" : " ").append(room.output(k));
        }
        return all.toString();
    }

    static String file(ShellsmithRoom room, int node) {
        StringBuilder all = new StringBuilder();
        for (int k = 0; k < room.ofNode(node, 3); k++) {
            all.append(k == 0 ? "" : " ").append(room.number(node, k));
        }
        return all.toString();
    }

    static String completions(ShellsmithRoom room) {
        StringBuilder all = new StringBuilder();
        for (int k = 0; k < 100; k++) {
            try {
                int token = room.complete(k);
                all.append(k == 0 ? "" : " ").append(token);
            } catch (IndexOutOfBoundsException none) {
                return all.toString();
            }
        }
        return all.toString();
    }

    void due(String what, long got, long want) {
        if (got != want) {
            tell(what, Long.toString(got), Long.toString(want));
        }
    }

    void due(String what, double got, double want) {
        if (got != want) {
            tell(what, Double.toString(got), Double.toString(want));
        }
    }

    void due(String what, String got, String want) {
        if (!got.equals(want)) {
            tell(what, got, want);
        }
    }

    void runDue(ShellsmithRoom room, String text, int right, String output) {
        due(text, run(room, text), right);
        due(text + ": OUTPUT", output(room), output);
    }

    void jobDue(ShellsmithRoom room, int job, int commands, int steps, int held, int working) {
        due("ofJob(" + job + ", 0)", room.ofJob(job, 0), commands);
        due("ofJob(" + job + ", 1)", room.ofJob(job, 1), steps);
        due("ofJob(" + job + ", 2)", room.ofJob(job, 2), held);
        due("ofJob(" + job + ", 3)", room.ofJob(job, 3), working);
    }

    void nodeDue(ShellsmithRoom room, int node, int kind, int name, int parent, int size) {
        due("ofNode(" + node + ", 0)", room.ofNode(node, 0), kind);
        due("ofNode(" + node + ", 1)", room.ofNode(node, 1), name);
        due("ofNode(" + node + ", 2)", room.ofNode(node, 2), parent);
        due("ofNode(" + node + ", 3)", room.ofNode(node, 3), size);
    }

    /** The call has to throw just this exception, and to change nothing. */
    void dueThrow(String what, ShellsmithRoom room, Class<?> want, IntSupplier call) {
        long before = room.digest();
        String got;
        try {
            got = Integer.toString(call.getAsInt());
        } catch (RuntimeException thrown) {
            got = thrown.getClass().getName();
        }
        if (!got.equals(want.getName())) {
            tell(what, got, want.getName());
        }
        due(what + ": the digest behind the throw", room.digest(), before);
    }

    private void tell(String what, String got, String want) {
        wrong++;
        System.out.println(test + ": " + what + " answered " + got + ", due is " + want);
    }

    void end() {
        System.out.println(test + ": " + (wrong == 0 ? "all answers are as due" : wrong + " answers are not as due"));
        if (wrong != 0) {
            System.exit(1);
        }
    }
}
