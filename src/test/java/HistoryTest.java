/** Promises 9 to 13: KEPT LINES, searching them, RULES, and correcting by RULES. */
public final class HistoryTest {
    private static final Check CHECK = new Check("HistoryTest");
    private static final Class<?> ARGUMENT = IllegalArgumentException.class;
    private static final Class<?> INDEX = IndexOutOfBoundsException.class;

    public static void main(String[] args) {
        keeping();
        recalling();
        searching();
        rulesMade();
        rulesNotMade();
        ruleArguments();
        correcting();
        correctingNothing();
        CHECK.end();
    }

    private static void keeping() {
        ShellsmithRoom room = new ShellsmithRoom();
        CHECK.dueThrow("kept(0, 0) of none", room, INDEX, () -> room.kept(0, 0));
        Check.run(room, "GO 1");
        Check.run(room, "GO #1");
        Check.run(room, "WAIT #2 BEHIND");
        CHECK.due("KEPT, a FAULT left out", room.many(4), 2);
        CHECK.due("kept(0, 0)", room.kept(0, 0), 27);
        CHECK.due("kept(0, 2)", room.kept(0, 2), 33);
        CHECK.due("kept(1, 1)", room.kept(1, 1), 1);
        CHECK.dueThrow("kept(1, 2)", room, INDEX, () -> room.kept(1, 2));
        CHECK.dueThrow("kept(1, -1)", room, INDEX, () -> room.kept(1, -1));
        CHECK.dueThrow("kept(2, 0)", room, INDEX, () -> room.kept(2, 0));
        CHECK.dueThrow("kept(-1, 0)", room, INDEX, () -> room.kept(-1, 0));
        for (int k = 0; k < 10; k++) {
            Check.run(room, "MAKE " + k);
        }
        CHECK.due("12 are KEPT", room.many(4), 12);
        CHECK.due("the oldest of 12", room.kept(11, 1), 1);
        Check.run(room, "SHOW 5");
        CHECK.due("still 12 are KEPT", room.many(4), 12);
        CHECK.due("the oldest has gone", room.kept(11, 0), 27);
        CHECK.due("the latest has come", room.kept(0, 0), 22);
        CHECK.dueThrow("kept(12, 0)", room, INDEX, () -> room.kept(12, 0));
        CHECK.due("LINES run ever", room.many(8), 13);
    }

    private static void recalling() {
        ShellsmithRoom room = Check.after("MAKE 1", "GO 1 UP");
        CHECK.dueThrow("recall(2)", room, INDEX, () -> room.recall(2));
        CHECK.dueThrow("recall(-1)", room, INDEX, () -> room.recall(-1));
        Check.type(room, "SHOW 1 2 3 4");
        CHECK.due("recall(1)", room.recall(1), 2);
        CHECK.due("many(6)", room.many(6), 2);
        CHECK.due("written(0)", room.written(0), 20);
        CHECK.due("recall(0)", room.recall(0), 3);
        CHECK.due("written(2)", room.written(2), 10);
        room.erase(1);
        room.token(9);
        CHECK.due("a KEPT LINE stays", room.kept(0, 2), 10);
        CHECK.due("recall keeps nothing", room.many(4), 2);
        CHECK.dueThrow("recall(12)", room, INDEX, () -> room.recall(12));
    }

    private static void searching() {
        ShellsmithRoom room = Check.after("GO 1 2", "GO 2 1", "SHOW 1", "MAKE 1 1 3");
        CHECK.due("search(24, NONE)", room.search(24, -1), 2);
        CHECK.due("search(1, 2)", room.search(1, 2), 3);
        CHECK.due("search(2, 1)", room.search(2, 1), 2);
        CHECK.due("search(1, 1)", room.search(1, 1), 0);
        CHECK.due("search(1, 3)", room.search(1, 3), 0);
        CHECK.due("not directly behind", room.search(20, 3), -1);
        CHECK.due("a last one with NONE behind", room.search(3, -1), 0);
        CHECK.due("a last one with one behind", room.search(3, 20), -1);
        CHECK.due("search(9, NONE)", room.search(9, -1), -1);
        CHECK.dueThrow("search(12, 0)", room, ARGUMENT, () -> room.search(12, 0));
        CHECK.dueThrow("search(-1, 0)", room, ARGUMENT, () -> room.search(-1, 0));
        CHECK.dueThrow("search(0, 100)", room, ARGUMENT, () -> room.search(0, 100));
        CHECK.dueThrow("search(0, -2)", room, ARGUMENT, () -> room.search(0, -2));
        CHECK.dueThrow("search(0, 34)", room, ARGUMENT, () -> room.search(0, 34));
    }

    private static void ruleDue(String what, ShellsmithRoom room, int from, int to, int many) {
        CHECK.due(what + ": rule(" + from + ")", room.rule(from), to);
        CHECK.due(what + ": many(5)", room.many(5), many);
    }

    private static void rulesMade() {
        ruleDue("FAILED, then RIGHT", Check.after("SHOW 5", "SHOW UP"), 5, 10, 1);
        ruleDue("a FAULT, then RIGHT", Check.after("MAKE #1", "MAKE 1"), 41, 1, 1);
        ruleDue("a FAULT, then a JOB", Check.after("GO #1 BEHIND", "GO 1 BEHIND"), 41, 1, 1);
        ruleDue("the VERB", Check.after("1 1", "MAKE 1"), 1, 20, 1);
        ruleDue("from the TOKEN 0", Check.after("GO 0", "GO UP"), 0, 10, 1);
        ShellsmithRoom room = Check.after("SHOW 5", "SHOW UP", "GO 5", "GO UP", "MAKE UP", "MAKE 3");
        ruleDue("two RULES", room, 10, 3, 2);
        CHECK.due("the other one", room.rule(5), 10);
        Check.run(room, "SHOW 5");
        Check.run(room, "SHOW 3");
        ruleDue("the latest one", room, 5, 3, 2);
    }

    private static void rulesNotMade() {
        ruleDue("RIGHT, then RIGHT", Check.after("MAKE 1", "MAKE 2"), 1, -1, 0);
        ruleDue("FAILED, then FAILED", Check.after("GO 1", "GO 2"), 1, -1, 0);
        ruleDue("another number of TOKENS", Check.after("GO 1", "GO UP UP"), 1, -1, 0);
        ruleDue("two places", Check.after("GO 1 2", "GO UP UP"), 1, -1, 0);
        ruleDue("no place", Check.after("GO 1 AND MAKE 2 OR MAKE 1", "GO 1 AND MAKE 2 OR MAKE 1"), 1, -1, 0);
        ruleDue("not the next one", Check.after("GO 1", "GO 2 3", "GO UP"), 1, -1, 0);
        ruleDue("a FAULT between", Check.after("GO 1", "3", "GO UP"), 1, -1, 0);
        ShellsmithRoom room = Check.after("SHOW 4", "SHOW UP", "SHOW UP UP", "GO 4", "GO #9", "GO UP");
        ruleDue("only the second of two", room, 49, 10, 2);
    }

    private static void ruleArguments() {
        ShellsmithRoom room = new ShellsmithRoom();
        CHECK.due("rule(99)", room.rule(99), -1);
        for (int token : new int[] {-1, 12, 19, 28, 29, 34, 39, 100, Integer.MAX_VALUE, Integer.MIN_VALUE}) {
            CHECK.dueThrow("rule(" + token + ")", room, ARGUMENT, () -> room.rule(token));
        }
    }

    private static void correcting() {
        ShellsmithRoom room = Check.after("SHOW 5", "SHOW UP", "MAKE 1");
        Check.type(room, "GO 5");
        CHECK.due("of a LINE that would FAIL", room.correct(), 1);
        CHECK.due("written(1)", room.written(1), 10);
        Check.type(room, "GO 1 UP 5");
        CHECK.due("in the third place", room.correct(), 3);
        Check.type(room, "GO 5 5");
        CHECK.due("two of them to change", room.correct(), -1);
        CHECK.due("nothing is changed", room.written(1), 5);
        Check.type(room, "SHOW 5 OR SHOW 5");
        CHECK.due("the first one with which it is RIGHT", room.correct(), 1);
        Check.run(room, "MAKE #7");
        Check.run(room, "MAKE 2");
        Check.type(room, "GO #7");
        CHECK.due("of a LINE with a FAULT", room.correct(), 1);
        CHECK.due("written(1)", room.written(1), 2);
        Check.run(room, "9 3");
        Check.run(room, "MAKE 3");
        Check.type(room, "9 4");
        CHECK.due("in the first place", room.correct(), 0);
        CHECK.due("written(0)", room.written(0), 20);
        Check.type(room, "SHOW 5 AND GO #7");
        CHECK.due("a FAULT that stays", room.correct(), -1);
        Check.type(room, "MAKE 5 AND TAKE #7 AND SHOW 5");
        CHECK.due("the first RULE is of no use", room.correct(), 4);
        CHECK.due("the second one is", room.written(4), 2);
    }

    private static void correctingNothing() {
        ShellsmithRoom room = Check.after("SHOW 5", "SHOW UP");
        CHECK.due("an empty LINE", room.correct(), -1);
        Check.type(room, "MAKE 5");
        CHECK.due("a RIGHT LINE", room.correct(), -1);
        CHECK.due("stays", room.written(1), 5);
        Check.type(room, "SHOW 6");
        CHECK.due("without a RULE", room.correct(), -1);
        Check.type(room, "MAKE 5 BEHIND");
        Check.run(room, "WAIT #9 BEHIND");
        Check.run(room, "WAIT #9 BEHIND");
        Check.run(room, "WAIT #9 BEHIND");
        Check.type(room, "MAKE 5 BEHIND");
        CHECK.due("run dry there is no BEHIND", room.correct(), -1);
    }
}
