/** Promises 1 to 8: a new object, and writing, reading and completing a LINE. */
public final class LineTest {
    private static final Check CHECK = new Check("LineTest");
    private static final Class<?> ARGUMENT = IllegalArgumentException.class;
    private static final Class<?> STATE = IllegalStateException.class;
    private static final Class<?> INDEX = IndexOutOfBoundsException.class;

    public static void main(String[] args) {
        newObject();
        writing();
        erasing();
        places();
        faultsAtTheBeginning();
        faultsOfPaths();
        faultsOfNumbers();
        faultsOfJoins();
        commands();
        running();
        outputs();
        completing();
        completingByUse();
        CHECK.end();
    }

    private static void newObject() {
        ShellsmithRoom room = new ShellsmithRoom();
        int[] many = {1, 0, 0, 0, 0, 0, 0, 0, 0, 0};
        for (int what = 0; what < many.length; what++) {
            CHECK.due("new: many(" + what + ")", room.many(what), many[what]);
        }
        CHECK.due("new: kind of 0", room.ofNode(0, 0), 1);
        for (int node = 1; node < 24; node++) {
            CHECK.due("new: kind of " + node, room.ofNode(node, 0), 0);
        }
        CHECK.due("new: digest", room.digest(), 1838031216781583791L);
    }

    private static void writing() {
        ShellsmithRoom room = new ShellsmithRoom();
        for (int token = -2; token <= 101; token++) {
            int written = token;
            boolean good = token >= 0 && token <= 11 || token >= 20 && token <= 27
                    || token >= 30 && token <= 33 || token >= 40 && token <= 99;
            if (good) {
                CHECK.due("token(" + token + ")", room.token(token), 1);
                CHECK.due("written(0)", room.written(0), token);
                room.erase(1);
            } else {
                CHECK.dueThrow("token(" + token + ")", room, ARGUMENT, () -> room.token(written));
            }
        }
        for (int k = 1; k <= 16; k++) {
            CHECK.due("token " + k, room.token(k % 10), k);
        }
        CHECK.dueThrow("the 17th token", room, STATE, () -> room.token(0));
        CHECK.dueThrow("the 17th, no TOKEN", room, ARGUMENT, () -> room.token(12));
        CHECK.dueThrow("the least number", room, ARGUMENT, () -> room.token(Integer.MIN_VALUE));
        CHECK.dueThrow("the greatest number", room, ARGUMENT, () -> room.token(Integer.MAX_VALUE));
    }

    private static void erasing() {
        ShellsmithRoom room = new ShellsmithRoom();
        CHECK.due("erase of an empty LINE", room.erase(1), 0);
        Check.type(room, "1 2 3 4 5");
        CHECK.due("erase(2)", room.erase(2), 3);
        CHECK.due("the last behind erase", room.written(2), 3);
        CHECK.dueThrow("erase(0)", room, ARGUMENT, () -> room.erase(0));
        CHECK.dueThrow("erase(17)", room, ARGUMENT, () -> room.erase(17));
        CHECK.dueThrow("erase(-1)", room, ARGUMENT, () -> room.erase(-1));
        CHECK.due("erase(16) of 3", room.erase(16), 0);
    }

    private static void places() {
        ShellsmithRoom room = new ShellsmithRoom();
        CHECK.dueThrow("written(0) of none", room, INDEX, () -> room.written(0));
        Check.type(room, "SHOW UP #7");
        CHECK.due("written(0)", room.written(0), 22);
        CHECK.due("written(1)", room.written(1), 10);
        CHECK.due("written(2)", room.written(2), 47);
        CHECK.dueThrow("written(3)", room, INDEX, () -> room.written(3));
        CHECK.dueThrow("written(-1)", room, INDEX, () -> room.written(-1));
        CHECK.dueThrow("line(3)", room, ARGUMENT, () -> room.line(3));
        CHECK.dueThrow("line(-1)", room, ARGUMENT, () -> room.line(-1));
    }

    private static void fault(String text, int fault, int place) {
        ShellsmithRoom room = new ShellsmithRoom();
        Check.type(room, text);
        CHECK.due(text + ": line(0)", room.line(0), fault);
        CHECK.due(text + ": line(1)", room.line(1), place);
        if (fault != 0) {
            CHECK.due(text + ": line(2)", room.line(2), 0);
        }
    }

    private static void faultsAtTheBeginning() {
        fault("", 3, 0);
        fault("1", 1, 0);
        fault("UP", 1, 0);
        fault("STAR", 1, 0);
        fault("#3", 1, 0);
        fault("PIPE", 1, 0);
        fault("BEHIND", 1, 0);
        fault("SORT", 4, 0);
        fault("SUM", 4, 0);
        fault("SORT 1", 4, 0);
        fault("MAKE 1 PIPE", 3, 3);
        fault("MAKE 1 AND", 3, 3);
        fault("MAKE 1 OR OR", 1, 3);
        fault("MAKE 1 PIPE BEHIND", 1, 3);
        fault("MAKE 1 AND 2", 1, 3);
        fault("MAKE 1 AND SORT", 4, 3);
        fault("MAKE 1 OR SUM", 4, 3);
        fault("MAKE 1 PIPE SORT", 0, -1);
        fault("MAKE 1 PIPE SUM", 0, -1);
        fault("MAKE 1 PIPE SORT AND SUM", 4, 5);
    }

    private static void faultsOfPaths() {
        for (String verb : new String[] {"MAKE", "GO", "WRITE", "SHOW", "TAKE"}) {
            boolean starred = verb.equals("SHOW") || verb.equals("TAKE");
            fault(verb, 3, 1);
            fault(verb + " PIPE SORT", 3, 1);
            fault(verb + " BEHIND", 3, 1);
            fault(verb + " BEHIND BEHIND", 3, 1);
            fault(verb + " #1", 2, 1);
            fault(verb + " MAKE", 2, 1);
            fault(verb + " 1", 0, -1);
            fault(verb + " UP", 0, -1);
            fault(verb + " 1 UP 2 UP UP", 0, -1);
            fault(verb + " 1 GO", 2, 2);
            fault(verb + " STAR", starred ? 0 : 2, starred ? -1 : 1);
            fault(verb + " 1 UP STAR", starred ? 0 : 2, starred ? -1 : 3);
            fault(verb + " 1 #1", verb.equals("WRITE") ? 0 : 2, verb.equals("WRITE") ? -1 : 2);
        }
        fault("SHOW STAR STAR", 2, 2);
        fault("SHOW STAR 1", 2, 2);
        fault("TAKE STAR UP", 2, 2);
        fault("TAKE 1 STAR #1", 2, 3);
        fault("SHOW STAR SHOW", 2, 2);
        fault("SHOW STAR PIPE SORT PIPE SUM BEHIND", 0, -1);
    }

    private static void faultsOfNumbers() {
        fault("WRITE 0 #0 #1 #2 #3 #4 #5 #6 #7", 0, -1);
        fault("WRITE 0 #0 #1 #2 #3 #4 #5 #6 #7 #8", 2, 10);
        fault("WRITE 0 #59 1", 2, 3);
        fault("WRITE 0 #59 UP", 2, 3);
        fault("WRITE 0 #59 STAR", 2, 3);
        fault("WRITE 0 #1 #2 #3 #4 AND WRITE 1 #5 #6 #7 #8 #9", 0, -1);
        fault("WAIT", 3, 1);
        fault("WAIT AND WAIT #1", 3, 1);
        fault("WAIT #0", 2, 1);
        fault("WAIT #1", 0, -1);
        fault("WAIT #9", 0, -1);
        fault("WAIT #10", 2, 1);
        fault("WAIT #59", 2, 1);
        fault("WAIT 1", 2, 1);
        fault("WAIT #1 #1", 2, 2);
        fault("WAIT WAIT", 2, 1);
        fault("WAIT #1 PIPE SORT #1", 2, 4);
        fault("WAIT #1 PIPE SUM 1", 2, 4);
        fault("WAIT #1 PIPE SUM SORT", 2, 4);
        fault("WAIT #1 PIPE SORT STAR", 2, 4);
    }

    private static void faultsOfJoins() {
        fault("WAIT #1 BEHIND", 0, -1);
        fault("WAIT #1 BEHIND WAIT #1", 2, 2);
        fault("WAIT #1 BEHIND BEHIND", 2, 2);
        fault("WAIT #1 BEHIND 1", 2, 2);
        fault("WAIT BEHIND 1", 3, 1);
        fault("WAIT #1 PIPE SUM BEHIND", 0, -1);
        fault("WAIT #1 PIPE SUM BEHIND SUM", 2, 4);
        fault("WAIT #1 AND WAIT #1 AND WAIT #1 AND WAIT #1 AND WAIT #1 AND", 3, 15);
        fault("WAIT #1 AND WAIT #1 AND WAIT #1 AND WAIT #1 AND WAIT #1 AND GO", 3, 16);
    }

    private static void commands() {
        String[] texts = {"GO UP", "GO UP BEHIND", "GO UP AND GO UP", "GO UP PIPE SORT OR SHOW STAR",
            "GO UP PIPE SORT PIPE SORT PIPE SORT PIPE SORT PIPE SORT PIPE SORT PIPE SUM"};
        int[] due = {1, 1, 2, 3, 8};
        for (int k = 0; k < texts.length; k++) {
            ShellsmithRoom room = new ShellsmithRoom();
            Check.type(room, texts[k]);
            CHECK.due(texts[k] + ": line(0)", room.line(0), 0);
            CHECK.due(texts[k] + ": line(2)", room.line(2), due[k]);
        }
    }

    private static void running() {
        ShellsmithRoom room = new ShellsmithRoom();
        CHECK.dueThrow("run() of none", room, STATE, room::run);
        CHECK.due("a RIGHT LINE", Check.run(room, "MAKE 1"), 1);
        CHECK.due("empty behind it", room.many(6), 0);
        CHECK.due("a LINE that FAILS", Check.run(room, "MAKE 1"), 0);
        CHECK.due("empty behind it", room.many(6), 0);
        CHECK.due("a LINE with a FAULT", Check.run(room, "MAKE 2 AND MAKE"), -1);
        CHECK.due("empty behind it", room.many(6), 0);
        CHECK.due("nothing is run with a FAULT", room.many(0), 2);
        CHECK.due("LINES without a FAULT", room.many(8), 2);
        CHECK.dueThrow("run() behind a run", room, STATE, room::run);
    }

    private static void outputs() {
        ShellsmithRoom room = Check.after("WRITE 1 #5 #2");
        CHECK.due("OUTPUT of WRITE", room.many(7), 0);
        CHECK.dueThrow("output(0) of none", room, INDEX, () -> room.output(0));
        Check.run(room, "SHOW 1");
        CHECK.due("OUTPUT of SHOW", Check.output(room), "5 2");
        CHECK.dueThrow("output(2)", room, INDEX, () -> room.output(2));
        CHECK.dueThrow("output(-1)", room, INDEX, () -> room.output(-1));
        Check.run(room, "SHOW");
        CHECK.due("OUTPUT of a LINE with a FAULT", room.many(7), 0);
        Check.run(room, "SHOW 1");
        Check.run(room, "SHOW 1 BEHIND");
        CHECK.due("OUTPUT of a LINE with BEHIND", room.many(7), 0);
        Check.run(room, "SHOW 1");
        Check.run(room, "SHOW 2");
        CHECK.due("OUTPUT of a LINE that FAILS", room.many(7), 0);
    }

    private static void completions(String text, String want) {
        ShellsmithRoom room = new ShellsmithRoom();
        Check.type(room, text);
        CHECK.due("completions of " + text, Check.completions(room), want);
    }

    private static void completing() {
        String path = "0 1 2 3 4 5 6 7 8 9 10";
        completions("", "20 21 22 23 24 27");
        completions("MAKE", path);
        completions("SHOW", path + " 11");
        completions("TAKE 1", path + " 11 30 31 32 33");
        completions("GO UP", path + " 30 31 32 33");
        completions("SHOW STAR", "30 31 32 33");
        completions("WAIT", "41 42 43 44 45 46 47 48 49");
        completions("WAIT #1", "30 31 32 33");
        completions("WAIT #1 BEHIND", "");
        completions("WAIT #1 PIPE", "20 21 22 23 24 25 26 27");
        completions("WAIT #1 AND", "20 21 22 23 24 27");
        completions("WAIT #1 PIPE SUM", "30 31 32 33");
        completions("WRITE 1 #0 #1 #2 #3 #4 #5 #6 #7", "30 31 32 33");
        completions("1", "");
        completions("MAKE #1", "");
        String fifteen = "GO 1 1 1 1 1 1 1 1 1 1 1 1 1 1";
        completions(fifteen, path + " 30 31 32 33");
        completions(fifteen + " 1", "");
        ShellsmithRoom room = new ShellsmithRoom();
        CHECK.dueThrow("complete(-1)", room, INDEX, () -> room.complete(-1));
        CHECK.dueThrow("complete(6)", room, INDEX, () -> room.complete(6));
        CHECK.dueThrow("complete of the greatest", room, INDEX, () -> room.complete(Integer.MAX_VALUE));
        Check.type(room, "WRITE 1");
        CHECK.due("the last NUMBER behind WRITE 1", room.complete(74), 99);
        CHECK.dueThrow("complete(75)", room, INDEX, () -> room.complete(75));
    }

    private static void completingByUse() {
        ShellsmithRoom room = Check.after("WAIT #3", "SHOW 4", "SHOW 4 4 2", "WAIT #3", "MAKE 4 4 7", "GO");
        CHECK.due("at the beginning", Check.completions(room), "22 27 20 21 23 24");
        room.token(22);
        CHECK.due("behind SHOW", Check.completions(room), "4 0 1 2 3 5 6 7 8 9 10 11");
        room.token(4);
        CHECK.due("behind 4", Check.completions(room), "4 2 7 0 1 3 5 6 8 9 10 11 30 31 32 33");
        for (int k = 0; k < 12; k++) {
            Check.run(room, "TAKE 9");
        }
        CHECK.due("LINES that are KEPT no more", Check.completions(room), "23 20 21 22 24 27");
    }
}
