/** Section 2 of the document's Terms, sentence by sentence: TOKENS, FAULTS and their places. */
public final class EdgesOfLinesTest {
    private static final Check CHECK = new Check("EdgesOfLinesTest");

    // The columns of the tables: NAME, UP, STAR, VERB but for those of the next two, WAIT, SORT and SUM,
    // PIPE, AND and OR, BEHIND, the NUMBER 0, the NUMBERS 1 to 9, the NUMBERS from 10 on.
    private static final int[] FIRST_OF_COLUMN = {0, 10, 11, 20, 27, 25, 30, 31, 33, 40, 41, 50};
    private static final int[] LAST_OF_COLUMN = {9, 10, 11, 24, 27, 26, 30, 32, 33, 40, 49, 99};

    private static final String COMMAND_BEGINS = "1. 1. 1. 3+ 3+ 4. 1. 1. 1. 1. 1. 1.";
    private static final String COMMAND_IS_WHOLE = "2. 2. 2. 2. 2. 2. 3+ 3+ 0 2. 2. 2.";

    public static void main(String[] args) {
        whereACommandBegins();
        behindVerbsOfPaths();
        behindPaths();
        behindStars();
        behindNumbersOfWrite();
        behindWait();
        behindSortAndSum();
        behindBehind();
        atTheEnd();
        sixteenTokens();
        smallestPlaceOfAll();
        howManyCommands();
        CHECK.end();
    }

    /**
     * For every TOKEN behind the text: the FAULT, its place, and whether it can COME there. In the table a
     * FAULT stands with - if its place is that of the TOKEN ahead, . its own, + behind it; 0 is none.
     */
    private static void table(String text, String wanted) {
        String[] codes = wanted.split(" ");
        StringBuilder come = new StringBuilder();
        for (int column = 0; column < codes.length; column++) {
            for (int token = FIRST_OF_COLUMN[column]; token <= LAST_OF_COLUMN[column]; token++) {
                faultBehind(text, token, codes[column]);
            }
        }
        for (int token : Check.allTokens()) {
            String code = codes[columnOf(token)];
            if (code.equals("0") || code.equals("3+")) {
                come.append(come.length() == 0 ? "" : " ").append(token);
            }
        }
        ShellsmithRoom room = new ShellsmithRoom();
        Check.type(room, text);
        CHECK.due("what can COME behind '" + text + "'", Check.completions(room), come.toString());
    }

    private static int columnOf(int token) {
        int column = 0;
        while (token < FIRST_OF_COLUMN[column] || token > LAST_OF_COLUMN[column]) {
            column++;
        }
        return column;
    }

    private static void faultBehind(String text, int token, String code) {
        ShellsmithRoom room = new ShellsmithRoom();
        Check.type(room, text);
        int size = room.token(token);
        int fault = code.charAt(0) - '0';
        int place = fault == 0 ? -1 : size - 1 + ("-.+".indexOf(code.charAt(1)) - 1);
        String what = "'" + text + "' and the TOKEN " + token;
        CHECK.due(what + ": FAULT", room.line(0), fault);
        CHECK.due(what + ": its place", room.line(1), place);
        if (fault != 0) {
            CHECK.due(what + ": COMMANDS", room.line(2), 0);
        }
    }

    private static void fault(String text, int fault, int place) {
        ShellsmithRoom room = new ShellsmithRoom();
        Check.type(room, text);
        CHECK.due(text + ": FAULT", room.line(0), fault);
        CHECK.due(text + ": its place", room.line(1), place);
    }

    private static void whereACommandBegins() {
        table("", COMMAND_BEGINS);
        table("GO UP AND", COMMAND_BEGINS);
        table("SHOW STAR OR", COMMAND_BEGINS);
        table("GO UP PIPE SUM AND", COMMAND_BEGINS);
        table("GO UP PIPE", COMMAND_BEGINS.replace("4.", "0"));
        table("GO UP PIPE SORT PIPE", COMMAND_BEGINS.replace("4.", "0"));
    }

    private static void behindVerbsOfPaths() {
        for (String verb : new String[] {"MAKE", "WRITE", "GO", "GO UP AND GO"}) {
            table(verb, "0 0 2. 2. 2. 2. 3. 3. 3. 2. 2. 2.");
        }
        for (String verb : new String[] {"SHOW", "TAKE", "GO UP OR TAKE"}) {
            table(verb, "0 0 0 2. 2. 2. 3. 3. 3. 2. 2. 2.");
        }
    }

    private static void behindPaths() {
        String noStar = "0 0 2. 2. 2. 2. 3+ 3+ 0 2. 2. 2.";
        String[] ends = {" 9", " UP", " 0 UP 5"};
        for (String end : ends) {
            table("MAKE" + end, noStar);
            table("GO" + end, noStar);
            table("WRITE" + end, "0 0 2. 2. 2. 2. 3+ 3+ 0 0 0 0");
            table("SHOW" + end, "0 0 0 2. 2. 2. 3+ 3+ 0 2. 2. 2.");
            table("TAKE" + end, "0 0 0 2. 2. 2. 3+ 3+ 0 2. 2. 2.");
        }
    }

    private static void behindStars() {
        table("SHOW STAR", COMMAND_IS_WHOLE);
        table("TAKE STAR", COMMAND_IS_WHOLE);
        table("SHOW 1 UP STAR", COMMAND_IS_WHOLE);
        table("TAKE UP STAR", COMMAND_IS_WHOLE);
    }

    private static void behindNumbersOfWrite() {
        String more = "2. 2. 2. 2. 2. 2. 3+ 3+ 0 0 0 0";
        table("WRITE 1 #0", more);
        table("WRITE 1 UP 2 #59 #59", more);
        table("WRITE 1 #1 #2 #3 #4 #5 #6 #7", more);
        table("WRITE 1 #1 #2 #3 #4 #5 #6 #7 #8", COMMAND_IS_WHOLE);
        table("WRITE 1 #1 #2 #3 #4 #5 AND WRITE 1 #1 #2 #3", more);
    }

    private static void behindWait() {
        table("WAIT", "2. 2. 2. 2. 2. 2. 3. 3. 3. 2. 0 2.");
        table("GO UP PIPE WAIT", "2. 2. 2. 2. 2. 2. 3. 3. 3. 2. 0 2.");
        table("WAIT #1", COMMAND_IS_WHOLE);
        table("WAIT #9", COMMAND_IS_WHOLE);
    }

    private static void behindSortAndSum() {
        table("GO UP PIPE SORT", COMMAND_IS_WHOLE);
        table("GO UP PIPE SUM", COMMAND_IS_WHOLE);
    }

    private static void behindBehind() {
        table("GO UP BEHIND", "2- 2- 2- 2- 2- 2- 2- 2- 2- 2- 2- 2-");
        table("GO UP PIPE SUM BEHIND", "2- 2- 2- 2- 2- 2- 2- 2- 2- 2- 2- 2-");
        // Something is missing ahead of this BEHIND.
        table("GO BEHIND", "3- 3- 3- 3- 3- 3- 3- 3- 3- 3- 3- 3-");
    }

    private static void atTheEnd() {
        fault("", 3, 0);
        fault("GO UP PIPE", 3, 3);
        fault("GO UP AND", 3, 3);
        fault("GO UP OR", 3, 3);
        for (String verb : new String[] {"MAKE", "WRITE", "SHOW", "TAKE", "GO", "WAIT"}) {
            fault(verb, 3, 1);
            fault("GO UP PIPE " + verb, 3, 4);
        }
    }

    private static void sixteenTokens() {
        String fifteen = "GO 1 2 3 4 5 6 7 8 9 UP UP UP UP UP";
        fault(fifteen + " UP", 0, -1);
        fault(fifteen + " BEHIND", 0, -1);
        fault(fifteen + " PIPE", 3, 16);
        fault(fifteen + " AND", 3, 16);
        fault(fifteen + " STAR", 2, 15);
        fault("GO 1 2 3 4 5 6 7 8 9 UP UP UP UP OR MAKE", 3, 16);
        fault("GO 1 2 3 4 5 6 7 8 9 UP UP UP UP OR SUM", 4, 15);
        fault("GO 1 2 3 4 5 6 7 8 9 UP UP UP UP OR 1", 1, 15);
    }

    private static void smallestPlaceOfAll() {
        fault("1 SORT", 1, 0);
        fault("SORT MAKE", 4, 0);
        fault("MAKE #1 AND SORT", 2, 1);
        fault("MAKE AND SORT", 3, 1);
        fault("GO UP AND SUM AND 3", 4, 3);
        fault("GO UP AND 3 AND SUM", 1, 3);
        fault("GO UP BEHIND AND", 2, 2);
        fault("GO 1 #1 BEHIND 1", 2, 2);
        fault("SHOW STAR STAR PIPE", 2, 2);
    }

    private static void commands(String text, int due) {
        ShellsmithRoom room = new ShellsmithRoom();
        Check.type(room, text);
        CHECK.due(text + ": COMMANDS", room.line(2), due);
    }

    private static void howManyCommands() {
        commands("", 0);
        commands("GO", 0);
        commands("GO UP AND GO", 0);
        commands("GO UP", 1);
        commands("GO UP BEHIND", 1);
        commands("GO UP PIPE SORT BEHIND", 2);
        commands("GO UP AND GO UP OR GO UP PIPE WAIT #1", 4);
        commands("SHOW STAR PIPE SORT PIPE SUM PIPE SORT PIPE SUM PIPE SORT PIPE SUM PIPE SORT", 8);
        commands("SHOW STAR PIPE SORT PIPE SUM PIPE SORT PIPE SUM PIPE SORT PIPE SUM PIPE WAIT", 0);
    }
}
