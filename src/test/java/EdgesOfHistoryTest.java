/** Section 5 of the document's Terms, sentence by sentence: KEPT LINES, RULES, what can COME. */
public final class EdgesOfHistoryTest {
    private static final Check CHECK = new Check("EdgesOfHistoryTest");
    private static final Class<?> INDEX = IndexOutOfBoundsException.class;

    public static void main(String[] args) {
        keptAreTwelve();
        keptFromTheLatestOn();
        keptWithoutFault();
        keptOfSixteenTokens();
        ruleBehindFaultAndFailed();
        ruleNeedsRight();
        ruleNeedsTheNextOneRun();
        ruleNeedsAsManyTokens();
        ruleNeedsJustOnePlace();
        ruleOfFirstAndLastPlace();
        oneRuleFromEachToken();
        aRuleFromEveryToken();
        correctLeavesRightLines();
        correctTakesTheFirstThatHelps();
        correctChangesOnePlace();
        correctGoesByTheDryRun();
        correctIsNotRun();
        comeWithFewerThanSixteen();
        comeMostOftenFirst();
        comeDirectlyBehind();
        comeAtTheBeginning();
        comeByKeptLinesAlone();
        CHECK.end();
    }

    private static String kept(ShellsmithRoom room, int kept) {
        StringBuilder all = new StringBuilder();
        for (int k = 0; k < 17; k++) {
            try {
                int token = room.kept(kept, k);
                all.append(k == 0 ? "" : " ").append(token);
            } catch (IndexOutOfBoundsException end) {
                break;
            }
        }
        return all.toString();
    }

    private static void keptAreTwelve() {
        ShellsmithRoom room = new ShellsmithRoom();
        for (int lines = 1; lines <= 15; lines++) {
            Check.run(room, "WAIT #" + (lines % 9 + 1));
            CHECK.due("KEPT LINES", room.many(4), Math.min(lines, 12));
            CHECK.due("LINES run ever", room.many(8), lines);
            for (int kept = 0; kept < Math.min(lines, 12); kept++) {
                CHECK.due("kept(" + kept + ", 1)", room.kept(kept, 1), 41 + (lines - kept) % 9);
            }
        }
        CHECK.due("the latest", kept(room, 0), "27 47");
        CHECK.due("the oldest", kept(room, 11), "27 45");
        CHECK.dueThrow("the thirteenth", room, INDEX, () -> room.kept(12, 0));
        CHECK.dueThrow("recall of the thirteenth", room, INDEX, () -> room.recall(12));
    }

    private static void keptFromTheLatestOn() {
        ShellsmithRoom room = Check.after("GO UP", "GO UP UP", "SHOW UP");
        CHECK.due("the latest", kept(room, 0), "22 10");
        CHECK.due("the one ahead of it", kept(room, 1), "24 10 10");
        CHECK.due("the first", kept(room, 2), "24 10");
        Check.run(room, "GO UP");
        CHECK.due("the same LINE is KEPT twice", kept(room, 0), "24 10");
        CHECK.due("KEPT LINES", room.many(4), 4);
    }

    private static void keptWithoutFault() {
        ShellsmithRoom room = Check.after("GO 5", "GO", "1 2 3", "WAIT #9 BEHIND", "SORT");
        CHECK.due("KEPT LINES", room.many(4), 2);
        CHECK.due("LINES run without a FAULT", room.many(8), 2);
        CHECK.due("that with BEHIND", kept(room, 0), "27 49 33");
        CHECK.due("that which FAILED", kept(room, 1), "24 5");
    }

    private static void keptOfSixteenTokens() {
        ShellsmithRoom room = Check.after("GO 1 2 3 4 5 6 7 8 9 UP UP UP UP UP UP");
        CHECK.due("all of them", kept(room, 0), "24 1 2 3 4 5 6 7 8 9 10 10 10 10 10 10");
        CHECK.dueThrow("kept(0, 16)", room, INDEX, () -> room.kept(0, 16));
        CHECK.due("recall(0)", room.recall(0), 16);
        CHECK.due("the last one", room.written(15), 10);
        CHECK.dueThrow("a seventeenth", room, IllegalStateException.class, () -> room.token(1));
    }

    private static void ruleDue(int from, int to, int rules, String... lines) {
        String what = String.join(" / ", lines);
        ShellsmithRoom room = Check.after(lines);
        CHECK.due(what + ": rule(" + from + ")", room.rule(from), to);
        CHECK.due(what + ": RULES", room.many(5), rules);
    }

    private static void ruleBehindFaultAndFailed() {
        ruleDue(5, 10, 1, "GO 5", "GO UP");
        ruleDue(45, 10, 1, "GO #5", "GO UP");
        ruleDue(45, 5, 1, "GO #5 BEHIND", "GO 5 BEHIND");
        ruleDue(33, 10, 1, "WAIT #9 BEHIND", "WAIT #9 BEHIND", "WAIT #9 BEHIND", "SHOW UP BEHIND", "SHOW UP UP");
    }

    private static void ruleNeedsRight() {
        ruleDue(5, -1, 0, "GO 5", "GO 6");
        ruleDue(5, -1, 0, "GO 5", "GO #6");
        ruleDue(1, -1, 0, "MAKE 1", "MAKE 2");
        ruleDue(5, -1, 0, "GO 5");
        ruleDue(6, 10, 1, "GO 5", "GO 6", "GO UP");
        ruleDue(10, -1, 0, "GO UP", "GO 5");
    }

    private static void ruleNeedsTheNextOneRun() {
        ruleDue(5, -1, 0, "GO 5", "GO UP UP", "GO UP");
        ruleDue(5, -1, 0, "GO 5", "1", "GO UP");
        ShellsmithRoom room = Check.after("GO 5");
        CHECK.dueThrow("run() of an empty LINE is none", room, IllegalStateException.class, room::run);
        room.recall(0);
        room.dry(0);
        room.erase(16);
        Check.run(room, "GO UP");
        CHECK.due("what is not run does not count", room.rule(5), 10);
        ShellsmithRoom recalled = Check.after("GO 5");
        recalled.recall(0);
        recalled.erase(1);
        recalled.token(10);
        recalled.run();
        CHECK.due("a LINE recalled and mended", recalled.rule(5), 10);
    }

    private static void ruleNeedsAsManyTokens() {
        ruleDue(5, -1, 0, "GO 5", "GO UP UP");
        ruleDue(5, -1, 0, "GO UP 5", "GO UP");
        ruleDue(5, -1, 0, "GO 5 UP", "GO UP");
        ruleDue(5, -1, 0, "GO 5 BEHIND 1", "GO UP BEHIND");
        ruleDue(5, 10, 1, "GO UP UP UP UP UP UP UP UP UP UP UP UP UP UP 5", "GO UP UP UP UP UP UP UP UP UP UP UP UP UP UP UP");
    }

    private static void ruleNeedsJustOnePlace() {
        ruleDue(5, -1, 0, "GO 5 6", "GO UP UP");
        ruleDue(5, -1, 0, "GO 5", "SHOW UP");
        ruleDue(5, 10, 1, "GO 5 UP UP", "GO UP UP UP");
        ruleDue(5, -1, 0, "GO 5 5", "GO UP UP");
        // The same LINE first FAILS and is then RIGHT, for what a JOB has MADE: no place is another.
        ruleDue(1, -1, 0, "WAIT #1 AND MAKE 1 BEHIND", "GO 1", "GO 1");
    }

    private static void ruleOfFirstAndLastPlace() {
        ruleDue(24, 22, 1, "WRITE 1", "GO 1", "SHOW 1");
        ruleDue(24, -1, 0, "WRITE 1", "SHOW 1", "GO UP");
        ruleDue(1, 24, 1, "1 UP", "GO UP");
        ruleDue(20, 33, 1, "GO UP MAKE", "GO UP BEHIND");
        ruleDue(0, 10, 1, "GO 0", "GO UP");
        ruleDue(10, 0, 1, "MAKE UP", "MAKE 0");
        ruleDue(99, 40, 1, "WAIT #1 AND MAKE 1 BEHIND", "WRITE 1 2 #59", "WRITE 1 2 #0");
    }

    private static void oneRuleFromEachToken() {
        ruleDue(5, 10, 1, "GO 5", "GO UP", "SHOW 5", "SHOW UP");
        ruleDue(5, 1, 1, "GO 5", "GO UP", "MAKE 1", "GO 5", "GO 1");
        ruleDue(6, 10, 2, "GO 5", "GO UP", "GO 6", "GO UP");
        ruleDue(10, 3, 2, "GO 5", "GO UP", "MAKE UP", "MAKE 3");
        ruleDue(5, 10, 2, "GO 5", "GO UP", "MAKE UP", "MAKE 3");
    }

    private static void aRuleFromEveryToken() {
        ShellsmithRoom room = new ShellsmithRoom();
        Check.write(room, "TAKE UP");
        room.run();
        Check.write(room, "MAKE UP");
        room.run();
        Check.write(room, "MAKE 9");
        room.run();
        for (int token : Check.allTokens()) {
            if (token != 9 && token != 10) {
                room.token(24);
                room.token(token);
                room.run();
                Check.write(room, "GO UP");
                room.run();
            }
        }
        CHECK.due("RULES", room.many(5), 83);
        CHECK.due("rule(10)", room.rule(10), 9);
        CHECK.due("rule(99)", room.rule(99), 10);
    }

    private static void correctDue(ShellsmithRoom room, String text, int place, String behind) {
        Check.type(room, text);
        CHECK.due(text + ": correct()", room.correct(), place);
        int[] tokens = Check.tokens(behind);
        CHECK.due(text + ": TOKENS behind it", room.many(6), tokens.length);
        for (int k = 0; k < tokens.length; k++) {
            CHECK.due(text + ": written(" + k + ")", room.written(k), tokens[k]);
        }
    }

    private static void correctLeavesRightLines() {
        ShellsmithRoom room = Check.after("GO 5", "GO UP");
        correctDue(room, "MAKE 5", -1, "MAKE 5");
        correctDue(room, "", -1, "");
        correctDue(room, "GO 6", -1, "GO 6");
        correctDue(new ShellsmithRoom(), "GO 5", -1, "GO 5");
        correctDue(room, "GO 5", 1, "GO UP");
        Check.run(room, "MAKE 5");
        correctDue(room, "GO 5", -1, "GO 5");
    }

    private static void correctTakesTheFirstThatHelps() {
        ShellsmithRoom room = Check.after("GO 5", "GO UP", "GO 6", "GO UP", "MAKE #7", "MAKE 7");
        correctDue(room, "GO 5 OR GO 6", 1, "GO UP OR GO 6");
        correctDue(room, "GO UP AND GO 6 OR GO 5", 4, "GO UP AND GO UP OR GO 5");
        correctDue(room, "MAKE 5 AND GO 6", 4, "MAKE 5 AND GO UP");
        correctDue(room, "GO #7 OR GO 5", 1, "GO 7 OR GO 5");
        correctDue(room, "SHOW UP UP UP UP UP UP UP UP UP UP UP UP UP UP 5", 15,
            "SHOW UP UP UP UP UP UP UP UP UP UP UP UP UP UP UP");
        Check.run(room, "9 UP");
        Check.run(room, "GO UP");
        correctDue(room, "9 UP", 0, "GO UP");
    }

    private static void correctChangesOnePlace() {
        ShellsmithRoom room = Check.after("GO 5", "GO UP", "GO 6", "GO UP");
        correctDue(room, "GO 5 AND GO 6", -1, "GO 5 AND GO 6");
        correctDue(room, "GO 5 5", -1, "GO 5 5");
        correctDue(room, "GO 5 #1", -1, "GO 5 #1");
        correctDue(room, "GO 5 AND", -1, "GO 5 AND");
    }

    private static void correctGoesByTheDryRun() {
        ShellsmithRoom room = Check.after("GO 5", "GO UP", "WAIT #9 BEHIND", "WAIT #9 BEHIND", "WAIT #9 BEHIND");
        correctDue(room, "GO 5 BEHIND", 1, "GO UP BEHIND");
        correctDue(room, "MAKE 5 BEHIND", -1, "MAKE 5 BEHIND");
        CHECK.due("run, it FAILS: no number is free", room.run(), 0);
    }

    private static void correctIsNotRun() {
        ShellsmithRoom room = Check.after("MAKE #1", "MAKE 1", "TAKE 1");
        correctDue(room, "MAKE #1", 1, "MAKE 1");
        CHECK.due("NODES", room.many(0), 1);
        CHECK.due("KEPT LINES", room.many(4), 2);
        CHECK.due("RULES", room.many(5), 1);
    }

    private static void comeDue(ShellsmithRoom room, String text, String due) {
        Check.type(room, text);
        CHECK.due("what can COME behind '" + text + "'", Check.completions(room), due);
    }

    private static void comeWithFewerThanSixteen() {
        ShellsmithRoom room = new ShellsmithRoom();
        String path = "0 1 2 3 4 5 6 7 8 9 10";
        String thirteen = "GO UP UP UP UP UP UP UP UP UP UP UP UP";
        comeDue(room, thirteen + " UP UP", path + " 30 31 32 33");
        comeDue(room, thirteen + " UP UP UP", "");
        comeDue(room, thirteen + " AND SHOW", path + " 11");
        comeDue(room, thirteen + " UP PIPE", "20 21 22 23 24 25 26 27");
        comeDue(room, thirteen + " AND SHOW STAR", "");
        comeDue(room, thirteen + " UP AND GO", "");
        CHECK.dueThrow("complete(0) with 16", room, INDEX, () -> room.complete(0));
    }

    private static void comeMostOftenFirst() {
        ShellsmithRoom room = Check.after("GO 7", "GO 3", "GO 7", "GO 5 AND GO 5 AND GO 5");
        comeDue(room, "GO", "5 7 3 0 1 2 4 6 8 9 10");
        comeDue(room, "SHOW UP AND GO", "5 7 3 0 1 2 4 6 8 9 10");
        comeDue(room, "SHOW", "0 1 2 3 4 5 6 7 8 9 10 11");
        comeDue(room, "GO 5", "31 0 1 2 3 4 5 6 7 8 9 10 30 32 33");
        // The place behind the last one counts as well: the smallest first among those that are equal.
        comeDue(Check.after("GO 9", "GO 2"), "GO", "2 9 0 1 3 4 5 6 7 8 10");
    }

    private static void comeDirectlyBehind() {
        ShellsmithRoom room = Check.after("SHOW 4 7", "SHOW 4 7 4", "MAKE 7 4 9");
        comeDue(room, "SHOW", "4 0 1 2 3 5 6 7 8 9 10 11");
        comeDue(room, "SHOW 4", "7 9 0 1 2 3 4 5 6 8 10 11 30 31 32 33");
        comeDue(room, "GO 7", "4 0 1 2 3 5 6 7 8 9 10 30 31 32 33");
        comeDue(Check.after("GO 7", "MAKE #1"), "MAKE", "0 1 2 3 4 5 6 7 8 9 10");
    }

    private static void comeAtTheBeginning() {
        ShellsmithRoom room = Check.after("SHOW UP AND GO UP AND GO UP", "WAIT #1", "SHOW UP", "GO UP");
        comeDue(room, "", "22 24 27 20 21 23");
        comeDue(room, "GO UP AND", "24 20 21 22 23 27");
    }

    private static void comeByKeptLinesAlone() {
        ShellsmithRoom room = Check.after("WAIT #9", "GO #1", "GO #2");
        comeDue(room, "", "27 20 21 22 23 24");
        for (int k = 0; k < 11; k++) {
            Check.run(room, "TAKE 9");
        }
        comeDue(room, "", "23 27 20 21 22 24");
        comeDue(room, "WAIT", "49 41 42 43 44 45 46 47 48");
        Check.run(room, "TAKE 9");
        comeDue(room, "", "23 20 21 22 24 27");
        comeDue(room, "WAIT", "41 42 43 44 45 46 47 48 49");
    }
}
