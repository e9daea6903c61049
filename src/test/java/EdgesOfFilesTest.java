/** Sections 1 and 3 of the document's Terms, sentence by sentence: NODES, and what each COMMAND does. */
public final class EdgesOfFilesTest {
    private static final Check CHECK = new Check("EdgesOfFilesTest");

    public static void main(String[] args) {
        nodesAre24();
        nodeZeroIsAlwaysThere();
        namesAre0To9();
        sameNameUnderOtherParents();
        sameNameUnderOneParent();
        numbersOfAFileAreEight();
        numbersAre0To99();
        newNodeIsTheSmallest();
        outputHasSixteen();
        inputHasSixteen();
        upOfZeroAndOfFiles();
        namesInFilesLeadNowhere();
        makeFails();
        writeFails();
        writeOfAFileThatIsThere();
        writeTakesItsOwnFirst();
        showOfDirectories();
        showOfFiles();
        showWithStar();
        takeOfOne();
        takeOfWorkingOnes();
        takeWithStar();
        takeWithStarLeavesDirectories();
        goFails();
        sorts();
        sums();
        waits();
        emptyOutputs();
        inputWithoutPipe();
        inputBehindOneThatFails();
        pipesRunOnWhetherTheyFail();
        andRunsBehindRight();
        orRunsBehindFailed();
        joinsLookAtWhatWasRunLast();
        CHECK.end();
    }

    private static void oneDue(String text, int right, String output, String... before) {
        CHECK.runDue(Check.after(before), text, right, output);
    }

    /** Nothing may be done by what FAILS: the NODES are those from before. */
    private static void failDue(String text, String... before) {
        ShellsmithRoom room = Check.after(before);
        String nodes = nodesOf(room);
        CHECK.runDue(room, text, 0, "");
        CHECK.due(text + ": NODES behind it", nodesOf(room), nodes);
    }

    private static String nodesOf(ShellsmithRoom room) {
        StringBuilder all = new StringBuilder();
        all.append(room.many(2));
        for (int node = 0; node < 24; node++) {
            if (room.ofNode(node, 0) == 2) {
                all.append(" [").append(Check.file(room, node)).append("]");
            }
            all.append(" ").append(room.ofNode(node, 0)).append("/").append(room.ofNode(node, 1)).append("/")
                .append(room.ofNode(node, 2));
        }
        return all.toString();
    }

    /** As many NODES under the DIRECTORIES 0 and 1, but for 24 of which one is missing. */
    private static String[] twentyThree() {
        String[] lines = new String[13];
        lines[0] = "MAKE 0 AND MAKE 1";
        for (int name = 0; name < 10; name++) {
            lines[1 + name] = "MAKE 0 " + name + " AND WRITE 1 " + name + " #" + name;
        }
        lines[11] = "WAIT #1";
        lines[12] = "WAIT #1";
        return lines;
    }

    private static void nodesAre24() {
        ShellsmithRoom room = Check.after(twentyThree());
        CHECK.due("23 NODES", room.many(0), 23);
        CHECK.runDue(room, "WRITE 9 #5", 1, "");
        CHECK.due("24 NODES", room.many(0), 24);
        CHECK.nodeDue(room, 23, 2, 9, 0, 1);
        CHECK.due("NUMBER of the NODE 23", room.number(23, 0), 5);
        CHECK.due("far(23)", room.far(23), 1);
        CHECK.runDue(room, "MAKE 8", 0, "");
        CHECK.runDue(room, "WRITE 8", 0, "");
        CHECK.runDue(room, "SHOW UP", 1, "0 1 9");
        CHECK.runDue(room, "WRITE 9 #6 #7", 1, "");
        CHECK.due("a FILE that is there, with all NODES there", Check.file(room, 23), "6 7");
        CHECK.runDue(room, "TAKE 0 5", 1, "");
        CHECK.runDue(room, "MAKE 8", 1, "");
        CHECK.due("24 NODES again", room.many(0), 24);
        CHECK.runDue(room, "MAKE 7", 0, "");
    }

    private static void nodeZeroIsAlwaysThere() {
        failDue("TAKE UP");
        failDue("TAKE UP", "MAKE 1");
        failDue("TAKE UP", "MAKE 1", "GO 1");
        failDue("TAKE UP UP UP");
        failDue("TAKE 1 UP", "WRITE 1");
    }

    private static void namesAre0To9() {
        ShellsmithRoom room = Check.after("MAKE 9", "WRITE 0");
        CHECK.nodeDue(room, 1, 1, 9, 0, 0);
        CHECK.nodeDue(room, 2, 2, 0, 0, 0);
        CHECK.runDue(room, "SHOW UP", 1, "0 9");
        oneDue("SHOW UP", 1, "0 1 2 3 4 5 6 7 8 9", "MAKE 9 AND MAKE 8 AND WRITE 7 AND MAKE 6 AND WRITE 5",
            "MAKE 4 AND MAKE 3 AND WRITE 2 AND MAKE 1 AND WRITE 0");
    }

    private static void sameNameUnderOtherParents() {
        ShellsmithRoom room = Check.after("MAKE 4");
        CHECK.runDue(room, "MAKE 4 4", 1, "");
        CHECK.runDue(room, "WRITE 4 4 4", 1, "");
        CHECK.nodeDue(room, 1, 1, 4, 0, 1);
        CHECK.nodeDue(room, 2, 1, 4, 1, 1);
        CHECK.nodeDue(room, 3, 2, 4, 2, 0);
    }

    private static void sameNameUnderOneParent() {
        failDue("MAKE 4", "MAKE 4");
        failDue("MAKE 4", "WRITE 4 #1");
        failDue("WRITE 4", "MAKE 4");
        failDue("MAKE 1 4", "MAKE 1", "WRITE 1 4 #2");
        oneDue("MAKE 4", 1, "", "MAKE 4", "TAKE 4");
        oneDue("MAKE 4", 1, "", "WRITE 4", "TAKE STAR");
    }

    private static void numbersOfAFileAreEight() {
        ShellsmithRoom room = Check.after("WRITE 1 #1 #2 #3 #4 #5 #6 #7 #8", "WRITE 2 #9", "SHOW STAR PIPE WRITE 3");
        CHECK.due("eight NUMBERS", room.ofNode(1, 3), 8);
        CHECK.due("the eighth", room.number(1, 7), 8);
        CHECK.due("the ninth is left out", Check.file(room, 3), "1 2 3 4 5 6 7 8");
        Check.run(room, "SHOW 2 PIPE WRITE 1 #8 #7 #6 #5 #4 #3 #2 #1");
        CHECK.due("eight of its own and an INPUT", Check.file(room, 1), "8 7 6 5 4 3 2 1");
        Check.run(room, "SHOW 2 PIPE WRITE 1 #8 #7 #6 #5 #4 #3 #2");
        CHECK.due("seven of its own and an INPUT of one", Check.file(room, 1), "8 7 6 5 4 3 2 9");
    }

    private static void numbersAre0To99() {
        ShellsmithRoom room = Check.after("WRITE 1 #0 #59 #40", "SHOW 1 PIPE SUM PIPE WRITE 2");
        CHECK.due("the least that can be written", room.number(1, 0), 0);
        CHECK.due("the greatest that can be written", room.number(1, 1), 59);
        CHECK.due("the greatest of all", room.number(2, 0), 99);
    }

    private static void newNodeIsTheSmallest() {
        ShellsmithRoom room = Check.after("MAKE 1", "MAKE 2", "MAKE 3", "MAKE 4", "TAKE 4 AND TAKE 2 AND TAKE 1");
        Check.run(room, "WRITE 9");
        CHECK.nodeDue(room, 1, 2, 9, 0, 0);
        Check.run(room, "MAKE 8");
        CHECK.nodeDue(room, 2, 1, 8, 0, 0);
        CHECK.nodeDue(room, 3, 1, 3, 0, 0);
        Check.run(room, "MAKE 7");
        CHECK.nodeDue(room, 4, 1, 7, 0, 0);
        oneDue("SHOW 1", 1, "", "WRITE 1 #1 #2", "TAKE 1", "WRITE 1");
    }

    private static final String[] SEVENTEEN = {"WRITE 3 #17", "WRITE 1 #1 #2 #3 #4 #5 #6 #7 #8",
        "WRITE 2 #9 #10 #11 #12 #13 #14 #15 #16"};

    private static void outputHasSixteen() {
        ShellsmithRoom room = Check.after(SEVENTEEN);
        CHECK.runDue(room, "SHOW STAR", 1, "1 2 3 4 5 6 7 8 9 10 11 12 13 14 15 16");
        CHECK.due("16 NUMBERS", room.many(7), 16);
        CHECK.due("the last one", room.output(15), 16);
        CHECK.dueThrow("output(16)", room, IndexOutOfBoundsException.class, () -> room.output(16));
        Check.run(room, "TAKE 3");
        CHECK.runDue(room, "SHOW STAR", 1, "1 2 3 4 5 6 7 8 9 10 11 12 13 14 15 16");
        CHECK.runDue(room, "WRITE 2 #0 #0 #0 #0 #0 #0 #0 AND SHOW STAR", 1, "1 2 3 4 5 6 7 8 0 0 0 0 0 0 0");
    }

    private static void inputHasSixteen() {
        oneDue("SHOW STAR PIPE SUM", 1, "36", SEVENTEEN);
        oneDue("SHOW STAR PIPE WAIT #1", 1, "1 2 3 4 5 6 7 8 9 10 11 12 13 14 15 16", SEVENTEEN);
        oneDue("SHOW STAR PIPE SORT", 1, "1 2 3 4 5 6 7 8 9 10 11 12 13 14 15 16", SEVENTEEN);
    }

    private static void upOfZeroAndOfFiles() {
        ShellsmithRoom room = Check.after("MAKE 1", "WRITE 1 2 #7", "WRITE 3 #8");
        CHECK.runDue(room, "SHOW UP", 1, "1 3");
        CHECK.runDue(room, "SHOW UP UP UP 3", 1, "8");
        CHECK.runDue(room, "SHOW 3 UP", 1, "1 3");
        CHECK.runDue(room, "SHOW 1 2 UP", 1, "2");
        CHECK.runDue(room, "SHOW 1 2 UP UP 3", 1, "8");
        CHECK.runDue(room, "SHOW 3 UP STAR", 1, "8");
        CHECK.runDue(room, "MAKE 1 2 UP 5", 1, "");
        CHECK.due("PARENT of what was made through a FILE", room.ofNode(4, 2), 1);
        CHECK.runDue(room, "GO 1 2 UP", 1, "");
        CHECK.due("WORKING", room.many(2), 1);
        CHECK.runDue(room, "TAKE UP 3 UP 3", 1, "");
        CHECK.runDue(room, "GO UP UP UP UP", 1, "");
        CHECK.due("WORKING behind UP of 0", room.many(2), 0);
    }

    private static void namesInFilesLeadNowhere() {
        failDue("SHOW 3 3", "WRITE 3 #1");
        failDue("SHOW 3 0", "WRITE 3 #1");
        failDue("SHOW 3 3 UP", "WRITE 3 #1");
        failDue("SHOW 5 UP", "WRITE 3 #1");
        failDue("GO 5 UP", "MAKE 1");
        failDue("TAKE 5 UP 1", "MAKE 1");
    }

    private static void makeFails() {
        failDue("MAKE 5 1");
        failDue("MAKE 5 UP 1");
        failDue("MAKE 3 1", "WRITE 3");
        failDue("MAKE UP");
        failDue("MAKE 1 UP", "MAKE 1");
        failDue("MAKE 1", "MAKE 1");
        failDue("MAKE 1", "WRITE 1");
        failDue("MAKE UP UP 1", "MAKE 1");
        ShellsmithRoom full = Check.after(twentyThree());
        CHECK.runDue(full, "MAKE 9", 1, "");
        CHECK.runDue(full, "MAKE 8", 0, "");
        oneDue("MAKE 1 UP 2", 1, "", "MAKE 1");
    }

    private static void writeFails() {
        failDue("WRITE 5 1 #1");
        failDue("WRITE 5 UP 1 #1");
        failDue("WRITE 3 1 #1", "WRITE 3");
        failDue("WRITE UP #1");
        failDue("WRITE 1 UP #1", "WRITE 1 #2");
        failDue("WRITE 1 #1", "MAKE 1");
        ShellsmithRoom full = Check.after(twentyThree());
        CHECK.runDue(full, "WRITE 9", 1, "");
        CHECK.runDue(full, "WRITE 8", 0, "");
    }

    private static void writeOfAFileThatIsThere() {
        ShellsmithRoom room = Check.after("WRITE 1 #1 #2 #3");
        CHECK.runDue(room, "WRITE 1 #4", 1, "");
        CHECK.nodeDue(room, 1, 2, 1, 0, 1);
        CHECK.due("its NUMBERS", Check.file(room, 1), "4");
        CHECK.due("no other NODE comes", room.many(0), 2);
        CHECK.runDue(room, "WRITE 1", 1, "");
        CHECK.due("written without NUMBERS", room.ofNode(1, 3), 0);
        ShellsmithRoom full = Check.after(twentyThree());
        CHECK.runDue(full, "MAKE 9", 1, "");
        CHECK.runDue(full, "WRITE 1 6 #1 #2", 1, "");
        CHECK.runDue(full, "SHOW 1 6", 1, "1 2");
        CHECK.runDue(full, "WRITE 1 6 7 #1", 0, "");
    }

    private static void writeTakesItsOwnFirst() {
        String[] before = {"WRITE 1 #1 #2"};
        oneDue("SHOW 1 PIPE WRITE 2 #9 AND SHOW 2", 1, "9 1 2", before);
        oneDue("SHOW 1 PIPE WRITE 1 #9 AND SHOW 1", 1, "9 1 2", before);
        oneDue("SHOW 1 PIPE WRITE 2 AND SHOW 2", 1, "1 2", before);
        oneDue("SHOW 1 AND WRITE 2 #9 AND SHOW 2", 1, "9", before);
    }

    private static void showOfDirectories() {
        oneDue("SHOW UP", 1, "");
        oneDue("SHOW 1", 1, "", "MAKE 1");
        oneDue("SHOW 1", 1, "2 3 5", "MAKE 1", "WRITE 1 5 #9", "MAKE 1 2", "WRITE 1 3", "MAKE 1 2 8");
        failDue("SHOW 2", "MAKE 1");
        failDue("SHOW 1 1", "MAKE 1");
    }

    private static void showOfFiles() {
        oneDue("SHOW 1", 1, "", "WRITE 1");
        oneDue("SHOW 1", 1, "3 1 2 1", "WRITE 1 #3 #1 #2 #1");
        oneDue("SHOW 1", 1, "8 7 6 5 4 3 2 1", "WRITE 1 #8 #7 #6 #5 #4 #3 #2 #1");
    }

    private static void showWithStar() {
        oneDue("SHOW STAR", 1, "1 2 3", "WRITE 9 #3", "WRITE 4 #2", "WRITE 0 #1");
        oneDue("SHOW STAR", 1, "3 2 1", "WRITE 4 #2", "WRITE 0 #3", "MAKE 2", "WRITE 9 #1");
        oneDue("SHOW STAR", 1, "", "WRITE 5");
        oneDue("SHOW 1 STAR", 1, "7", "MAKE 1", "WRITE 1 1 #7", "WRITE 2 #8");
        failDue("SHOW STAR");
        failDue("SHOW STAR", "MAKE 1", "WRITE 1 1 #7");
        failDue("SHOW 2 STAR", "WRITE 2 #1");
        failDue("SHOW 3 STAR", "WRITE 2 #1");
        failDue("SHOW 3 UP STAR", "WRITE 2 #1");
    }

    private static void takeOfOne() {
        ShellsmithRoom room = Check.after("MAKE 1", "WRITE 1 2 #5", "MAKE 1 3");
        CHECK.runDue(room, "TAKE 1", 0, "");
        CHECK.runDue(room, "TAKE 1 2", 1, "");
        CHECK.nodeDue(room, 2, 0, -1, -1, 0);
        CHECK.runDue(room, "TAKE 1", 0, "");
        CHECK.runDue(room, "TAKE 1 3", 1, "");
        CHECK.runDue(room, "TAKE 1", 1, "");
        CHECK.nodeDue(room, 1, 0, -1, -1, 0);
        CHECK.runDue(room, "TAKE 1", 0, "");
        CHECK.due("0 alone", room.many(0), 1);
        failDue("TAKE 2 2", "WRITE 2 #1");
        failDue("TAKE 3", "WRITE 2 #1");
        failDue("TAKE 1", "MAKE 1", "WRITE 1 0");
        failDue("TAKE 1", "MAKE 1", "MAKE 1 9");
    }

    private static void takeOfWorkingOnes() {
        failDue("TAKE UP 1", "MAKE 1", "GO 1");
        failDue("TAKE 1", "MAKE 1", "GO 1", "WAIT #9 BEHIND", "GO UP");
        ShellsmithRoom room = Check.after("MAKE 1", "MAKE 2", "GO 1", "WAIT #9 BEHIND", "GO UP 2",
            "TAKE UP 1 OR TAKE UP 2 BEHIND", "GO UP", "GO UP");
        CHECK.due("a JOB can't TAKE that of another JOB, nor its own", room.many(0), 3);
        CHECK.due("that JOB is over", room.many(3), 1);
        ShellsmithRoom other = Check.after("MAKE 1", "WAIT #1 AND TAKE 1 BEHIND", "GO 1", "GO UP 1", "GO UP");
        CHECK.due("a JOB can't TAKE that of the shell", other.many(0), 2);
        oneDue("GO 1 AND TAKE UP 1", 0, "", "MAKE 1");
        oneDue("GO 1 AND GO UP AND TAKE 1", 1, "", "MAKE 1");
    }

    private static void takeWithStar() {
        ShellsmithRoom room = Check.after("MAKE 1", "WRITE 1 0 #1", "WRITE 1 9", "WRITE 2 #3");
        CHECK.runDue(room, "TAKE 1 STAR", 1, "");
        CHECK.runDue(room, "SHOW 1", 1, "");
        CHECK.due("FILES elsewhere stay", room.many(1), 1);
        CHECK.runDue(room, "TAKE 1 STAR", 0, "");
        CHECK.runDue(room, "TAKE STAR", 1, "");
        CHECK.due("FILES", room.many(1), 0);
        failDue("TAKE STAR");
        failDue("TAKE STAR", "MAKE 1", "WRITE 1 1 #7");
        failDue("TAKE 2 STAR", "WRITE 2 #1");
        failDue("TAKE 3 STAR", "WRITE 2 #1");
        failDue("TAKE 3 UP STAR", "WRITE 2 #1");
    }

    private static void takeWithStarLeavesDirectories() {
        ShellsmithRoom room = Check.after("MAKE 1", "WRITE 2", "MAKE 3", "WRITE 4", "GO 1");
        CHECK.runDue(room, "TAKE UP STAR", 1, "");
        CHECK.runDue(room, "SHOW UP", 1, "1 3");
        oneDue("TAKE STAR", 1, "", "MAKE 1", "GO 1", "WRITE 5");
    }

    private static void goFails() {
        failDue("GO 1");
        failDue("GO 1", "WRITE 1");
        failDue("GO 1 UP 2", "MAKE 1");
        failDue("GO 2 1", "WRITE 2");
        ShellsmithRoom room = Check.after("MAKE 1", "MAKE 1 2", "GO 1 2");
        CHECK.due("WORKING", room.many(2), 2);
        CHECK.runDue(room, "GO 2", 0, "");
        CHECK.due("WORKING behind one that FAILS", room.many(2), 2);
        CHECK.runDue(room, "GO UP", 1, "");
        CHECK.due("WORKING behind UP", room.many(2), 1);
    }

    private static void sorts() {
        oneDue("SHOW 1 PIPE SORT", 1, "", "WRITE 1");
        oneDue("SHOW 1 PIPE SORT", 1, "5", "WRITE 1 #5");
        oneDue("SHOW 1 PIPE SORT", 1, "0 1 1 3 3 59", "WRITE 1 #59 #3 #1 #3 #0 #1");
        oneDue("SHOW STAR PIPE SORT", 1, "1 2 3 4 5 6 7 8 9 10 11 12 13 14 15 16",
            "WRITE 1 #16 #15 #14 #13 #12 #11 #10 #9", "WRITE 2 #8 #7 #6 #5 #4 #3 #2 #1");
    }

    private static void sums() {
        oneDue("SHOW 1 PIPE SUM", 1, "0", "WRITE 1");
        oneDue("SHOW 1 PIPE SUM", 1, "7", "WRITE 1 #7");
        oneDue("SHOW 1 PIPE SUM", 1, "99", "WRITE 1 #50 #49");
        oneDue("SHOW 1 PIPE SUM", 1, "0", "WRITE 1 #50 #50");
        oneDue("SHOW 1 PIPE SUM", 1, "1", "WRITE 1 #50 #51");
        oneDue("SHOW 1 PIPE SUM", 1, "72", "WRITE 1 #59 #59 #59 #59 #59 #59 #59 #59");
        oneDue("SHOW STAR PIPE SUM", 1, "44", "WRITE 1 #59 #59 #59 #59 #59 #59 #59 #59",
            "WRITE 2 #59 #59 #59 #59 #59 #59 #59 #59");
        oneDue("GO UP PIPE SUM", 1, "0");
    }

    private static void waits() {
        oneDue("WAIT #1", 1, "");
        oneDue("WAIT #9", 1, "");
        oneDue("SHOW 1 PIPE WAIT #9", 1, "2 1", "WRITE 1 #2 #1");
    }

    private static void emptyOutputs() {
        String[] before = {"WRITE 1 #5", "MAKE 2"};
        oneDue("SHOW 1 PIPE MAKE 3", 1, "", before);
        oneDue("SHOW 1 PIPE WRITE 3", 1, "", before);
        oneDue("SHOW 1 PIPE TAKE 2", 1, "", before);
        oneDue("SHOW 1 PIPE GO 2", 1, "", before);
        oneDue("SHOW 1 PIPE MAKE 2", 0, "", before);
        oneDue("SHOW 1 PIPE SHOW 4", 0, "", before);
    }

    private static void inputWithoutPipe() {
        String[] before = {"WRITE 1 #5"};
        oneDue("SHOW 1 AND WAIT #1", 1, "", before);
        oneDue("SHOW 1 PIPE SHOW 2 OR WAIT #1", 1, "", before);
        oneDue("SHOW 1 AND WRITE 3 AND SHOW 3", 1, "", before);
        ShellsmithRoom room = Check.after("WRITE 1 #5", "SHOW 1");
        CHECK.runDue(room, "WAIT #1", 1, "");
    }

    private static void inputBehindOneThatFails() {
        String[] before = {"WRITE 1 #5"};
        oneDue("SHOW 1 PIPE SHOW 2 PIPE WAIT #1", 1, "", before);
        oneDue("SHOW 2 PIPE SUM", 1, "0", before);
        oneDue("SHOW 2 PIPE WRITE 1 AND SHOW 1", 1, "", before);
    }

    private static void pipesRunOnWhetherTheyFail() {
        oneDue("GO 5 PIPE MAKE 1 PIPE MAKE 2 AND SHOW UP", 1, "1 2");
        oneDue("MAKE 1 PIPE MAKE 2 PIPE GO 5", 0, "");
        oneDue("MAKE 1 PIPE GO 5 AND MAKE 2 OR SHOW UP", 1, "1");
        oneDue("GO 5 PIPE MAKE 1 OR MAKE 2 AND SHOW UP", 1, "1");
    }

    private static void andRunsBehindRight() {
        oneDue("MAKE 1 AND SHOW UP", 1, "1");
        ShellsmithRoom room = new ShellsmithRoom();
        CHECK.runDue(room, "GO 5 AND MAKE 1", 0, "");
        CHECK.due("behind AND nothing is run", room.many(0), 1);
        CHECK.runDue(room, "GO 5 AND MAKE 1 PIPE MAKE 2 PIPE MAKE 3", 0, "");
        CHECK.due("nor what it is joined to by PIPES", room.many(0), 1);
    }

    private static void orRunsBehindFailed() {
        oneDue("GO 5 OR SHOW UP", 1, "1", "MAKE 1");
        ShellsmithRoom room = new ShellsmithRoom();
        CHECK.runDue(room, "GO UP OR MAKE 1", 1, "");
        CHECK.due("behind OR nothing is run", room.many(0), 1);
        CHECK.runDue(room, "SHOW UP OR MAKE 1 PIPE MAKE 2 PIPE MAKE 3", 1, "");
        CHECK.due("nor what it is joined to by PIPES", room.many(0), 1);
    }

    private static void joinsLookAtWhatWasRunLast() {
        String[] before = {"WRITE 1 #5", "WRITE 2 #6"};
        oneDue("SHOW 1 OR GO 9 AND SHOW 2", 1, "6", before);
        oneDue("GO 9 AND GO UP OR SHOW 2", 1, "6", before);
        oneDue("GO 9 AND SHOW 1 AND SHOW 2", 0, "", before);
        oneDue("SHOW 1 OR SHOW 2 OR SHOW 2", 1, "5", before);
        oneDue("SHOW 1 AND GO 9 OR GO 9 OR SHOW 2", 1, "6", before);
        oneDue("SHOW 1 OR GO 9 PIPE GO 9 OR SHOW 2", 1, "5", before);
        oneDue("SHOW 1 AND GO 9", 0, "", before);
    }
}
