/** Promises 6, 14, 15, 18 and 19: what COMMANDS do with files, and what one asks of them. */
public final class FilesTest {
    private static final Check CHECK = new Check("FilesTest");
    private static final Class<?> ARGUMENT = IllegalArgumentException.class;
    private static final Class<?> INDEX = IndexOutOfBoundsException.class;

    public static void main(String[] args) {
        making();
        makingTooMany();
        writing();
        writingBehindPipes();
        showing();
        showingStars();
        taking();
        takingStars();
        going();
        pipes();
        joins();
        nodes();
        means();
        CHECK.end();
    }

    private static void making() {
        ShellsmithRoom room = new ShellsmithRoom();
        CHECK.runDue(room, "MAKE 3", 1, "");
        CHECK.runDue(room, "MAKE 3 4", 1, "");
        CHECK.runDue(room, "MAKE 3 UP 3 4 UP 5", 1, "");
        CHECK.due("PARENT of 3", room.ofNode(3, 2), 1);
        CHECK.due("NAME of 3", room.ofNode(3, 1), 5);
        CHECK.runDue(room, "MAKE 3", 0, "");
        CHECK.runDue(room, "MAKE UP", 0, "");
        CHECK.runDue(room, "MAKE 3 UP", 0, "");
        CHECK.runDue(room, "MAKE 7 1", 0, "");
        CHECK.runDue(room, "MAKE 7 UP 1", 0, "");
        Check.run(room, "WRITE 6");
        CHECK.runDue(room, "MAKE 6", 0, "");
        CHECK.runDue(room, "MAKE 6 1", 0, "");
        CHECK.runDue(room, "MAKE 6 UP 1", 1, "");
        CHECK.runDue(room, "MAKE UP UP 2", 1, "");
        CHECK.due("UP of 0 is 0", room.ofNode(6, 2), 0);
    }

    private static ShellsmithRoom full() {
        ShellsmithRoom room = Check.after("MAKE 0", "MAKE 1", "WRITE 2 #7");
        for (int k = 0; k < 10; k++) {
            Check.run(room, "MAKE 0 " + k);
            Check.run(room, "WRITE 1 " + k + " #" + k);
        }
        return room;
    }

    private static void makingTooMany() {
        ShellsmithRoom room = full();
        CHECK.due("NODES", room.many(0), 24);
        CHECK.runDue(room, "MAKE 3", 0, "");
        CHECK.runDue(room, "WRITE 3 #1", 0, "");
        CHECK.runDue(room, "WRITE 2 #8", 1, "");
        CHECK.due("a FILE written with all NODES there", Check.file(room, 3), "8");
        CHECK.runDue(room, "TAKE 0 4", 1, "");
        CHECK.runDue(room, "WRITE 3 #1", 1, "");
        CHECK.due("the smallest NODE that is not there", room.ofNode(12, 1), 3);
    }

    private static void writing() {
        ShellsmithRoom room = Check.after("MAKE 1");
        CHECK.runDue(room, "WRITE 2 #5 #59 #0", 1, "");
        CHECK.due("its NUMBERS", Check.file(room, 2), "5 59 0");
        CHECK.runDue(room, "WRITE 2 #4", 1, "");
        CHECK.due("written anew", Check.file(room, 2), "4");
        CHECK.runDue(room, "WRITE 1 2", 1, "");
        CHECK.due("without NUMBERS", room.ofNode(3, 3), 0);
        CHECK.runDue(room, "WRITE 1", 0, "");
        CHECK.runDue(room, "WRITE UP", 0, "");
        CHECK.runDue(room, "WRITE 2 1", 0, "");
        CHECK.runDue(room, "WRITE 2 UP 3 #9", 1, "");
        CHECK.due("through a FILE and UP", room.ofNode(4, 2), 0);
        CHECK.runDue(room, "WRITE 8 1", 0, "");
        CHECK.due("nothing else came to be", room.many(0), 5);
    }

    private static void writingBehindPipes() {
        ShellsmithRoom room = Check.after("WRITE 1 #1 #2 #3 #4 #5", "WRITE 2 #9 #8");
        CHECK.runDue(room, "SHOW 1 PIPE WRITE 3 #7 #6", 1, "");
        CHECK.due("its own NUMBERS, then the INPUT", Check.file(room, 3), "7 6 1 2 3 4 5");
        CHECK.runDue(room, "SHOW 1 PIPE WRITE 3 #0 #0 #0 #0 #0", 1, "");
        CHECK.due("the first 8 of all", Check.file(room, 3), "0 0 0 0 0 1 2 3");
        CHECK.runDue(room, "SHOW 2 PIPE WRITE 2", 1, "");
        CHECK.due("from itself", Check.file(room, 2), "9 8");
        CHECK.runDue(room, "SHOW 7 PIPE WRITE 2", 1, "");
        CHECK.due("behind one that FAILED", Check.file(room, 2), "");
        CHECK.runDue(room, "SHOW 1 AND WRITE 2 #3", 1, "");
        CHECK.due("no INPUT behind AND", Check.file(room, 2), "3");
    }

    private static void showing() {
        ShellsmithRoom room = Check.after("MAKE 7", "WRITE 3 #2 #1", "MAKE 7 5", "GO 7");
        CHECK.runDue(room, "SHOW UP", 1, "3 7");
        CHECK.runDue(room, "SHOW UP 3", 1, "2 1");
        CHECK.runDue(room, "SHOW UP 3 UP", 1, "3 7");
        CHECK.runDue(room, "SHOW 5", 1, "");
        CHECK.runDue(room, "SHOW 3", 0, "");
        CHECK.runDue(room, "SHOW 3 UP", 0, "");
        CHECK.runDue(room, "MAKE 0 PIPE WRITE 9 PIPE SHOW UP 7", 1, "0 5 9");
        CHECK.runDue(room, "SHOW UP 3 3", 0, "");
        CHECK.runDue(room, "SHOW UP UP UP", 1, "3 7");
    }

    private static void showingStars() {
        ShellsmithRoom room = Check.after("WRITE 4 #9 #8", "MAKE 3", "WRITE 2 #7", "WRITE 3 1");
        CHECK.runDue(room, "SHOW STAR", 1, "7 9 8");
        CHECK.runDue(room, "SHOW 3 STAR", 1, "");
        CHECK.runDue(room, "SHOW 3 UP STAR", 1, "7 9 8");
        CHECK.runDue(room, "SHOW 4 STAR", 0, "");
        CHECK.runDue(room, "SHOW 5 STAR", 0, "");
        CHECK.runDue(room, "TAKE 3 1 AND SHOW 3 STAR", 0, "");
        ShellsmithRoom many = Check.after("WRITE 1 #1 #2 #3 #4 #5 #6 #7", "WRITE 0 #8 #9 #10 #11 #12 #13 #14",
            "WRITE 2 #15 #16 #17");
        CHECK.runDue(many, "SHOW STAR", 1, "8 9 10 11 12 13 14 1 2 3 4 5 6 7 15 16");
        CHECK.runDue(many, "SHOW STAR PIPE SUM", 1, "36");
    }

    private static void taking() {
        ShellsmithRoom room = Check.after("MAKE 1", "MAKE 1 2", "WRITE 3 #5");
        CHECK.runDue(room, "TAKE 1", 0, "");
        CHECK.runDue(room, "TAKE UP", 0, "");
        CHECK.runDue(room, "TAKE 9", 0, "");
        CHECK.runDue(room, "TAKE 3", 1, "");
        CHECK.due("not there", room.ofNode(3, 0), 0);
        CHECK.due("without NUMBERS", room.ofNode(3, 3), 0);
        CHECK.due("without a NAME", room.ofNode(3, 1), -1);
        CHECK.due("without a PARENT", room.ofNode(3, 2), -1);
        CHECK.dueThrow("number(3, 0) behind TAKE", room, INDEX, () -> room.number(3, 0));
        Check.run(room, "GO 1 2");
        CHECK.runDue(room, "TAKE UP 2", 0, "");
        CHECK.runDue(room, "GO UP AND TAKE 2", 1, "");
        CHECK.runDue(room, "TAKE UP 1", 0, "");
        CHECK.runDue(room, "GO UP PIPE TAKE 1", 1, "");
        CHECK.due("0 alone", room.many(0), 1);
        Check.run(room, "MAKE 1");
        CHECK.runDue(room, "GO 1 AND WAIT #9 BEHIND", 1, "");
        Check.run(room, "WAIT #1");
        CHECK.due("the WORKING one of the JOB", room.ofJob(0, 3), 1);
        CHECK.runDue(room, "TAKE 1", 0, "");
        room.signal(0, 2);
        CHECK.runDue(room, "TAKE 1", 1, "");
    }

    private static void takingStars() {
        ShellsmithRoom room = Check.after("MAKE 1", "WRITE 2 #1", "WRITE 3 #1", "MAKE 1 2", "WRITE 1 0", "WRITE 1 9");
        CHECK.runDue(room, "TAKE 1 STAR", 1, "");
        CHECK.due("FILES", room.many(1), 2);
        CHECK.due("NODES", room.many(0), 5);
        CHECK.runDue(room, "TAKE 1 STAR", 0, "");
        CHECK.runDue(room, "TAKE 2 STAR", 0, "");
        CHECK.runDue(room, "TAKE 8 STAR", 0, "");
        CHECK.runDue(room, "TAKE STAR", 1, "");
        CHECK.due("FILES", room.many(1), 0);
        CHECK.due("NODES", room.many(0), 3);
    }

    private static void going() {
        ShellsmithRoom room = Check.after("MAKE 1", "MAKE 1 2", "WRITE 3");
        CHECK.runDue(room, "GO 3", 0, "");
        CHECK.runDue(room, "GO 4", 0, "");
        CHECK.runDue(room, "GO 1 2", 1, "");
        CHECK.due("WORKING", room.many(2), 2);
        CHECK.runDue(room, "GO UP UP 3 UP 1", 1, "");
        CHECK.due("WORKING", room.many(2), 1);
        CHECK.runDue(room, "GO UP UP UP", 1, "");
        CHECK.due("WORKING", room.many(2), 0);
        CHECK.runDue(room, "GO 1 AND GO 1", 0, "");
        CHECK.due("the first one is done", room.many(2), 1);
    }

    private static void pipes() {
        ShellsmithRoom room = Check.after("WRITE 1 #59 #3 #41 #3", "WRITE 2");
        CHECK.runDue(room, "SHOW 1 PIPE SORT", 1, "3 3 41 59");
        CHECK.runDue(room, "SHOW 1 PIPE SUM", 1, "6");
        CHECK.runDue(room, "SHOW 1 PIPE WAIT #9", 1, "59 3 41 3");
        CHECK.runDue(room, "SHOW 2 PIPE SUM", 1, "0");
        CHECK.runDue(room, "SHOW 2 PIPE SORT", 1, "");
        CHECK.runDue(room, "SHOW 8 PIPE SUM", 1, "0");
        CHECK.runDue(room, "SHOW 1 PIPE SHOW 8", 0, "");
        CHECK.runDue(room, "SHOW 1 PIPE GO UP PIPE SORT", 1, "");
        CHECK.runDue(room, "SHOW 1 PIPE SUM PIPE SUM PIPE WAIT #1", 1, "6");
        CHECK.runDue(room, "WAIT #1", 1, "");
    }

    private static void joins() {
        ShellsmithRoom room = Check.after("WRITE 1 #5", "WRITE 2 #6");
        CHECK.runDue(room, "SHOW 1 AND SHOW 2", 1, "6");
        CHECK.runDue(room, "SHOW 1 OR SHOW 2", 1, "5");
        CHECK.runDue(room, "SHOW 3 AND SHOW 2", 0, "");
        CHECK.runDue(room, "SHOW 3 OR SHOW 2", 1, "6");
        CHECK.runDue(room, "SHOW 3 AND SHOW 1 OR SHOW 2", 1, "6");
        CHECK.runDue(room, "SHOW 1 OR SHOW 3 AND SHOW 2", 1, "6");
        CHECK.runDue(room, "SHOW 1 OR SHOW 3 PIPE SUM AND SHOW 2", 1, "6");
        CHECK.runDue(room, "SHOW 1 OR MAKE 5 PIPE MAKE 6", 1, "5");
        CHECK.due("what is left out is not done", room.many(0), 3);
        CHECK.runDue(room, "SHOW 3 PIPE SUM AND SHOW 1", 1, "5");
        CHECK.runDue(room, "SHOW 1 PIPE SHOW 3 OR SHOW 2", 1, "6");
        CHECK.runDue(room, "SHOW 3 OR SHOW 4 OR SHOW 1 OR SHOW 2", 1, "5");
    }

    private static void nodes() {
        ShellsmithRoom room = Check.after("MAKE 7", "WRITE 7 8 #1 #2 #3", "WRITE 9", "MAKE 7 5");
        CHECK.nodeDue(room, 0, 1, -1, -1, 2);
        CHECK.nodeDue(room, 1, 1, 7, 0, 2);
        CHECK.nodeDue(room, 2, 2, 8, 1, 3);
        CHECK.nodeDue(room, 3, 2, 9, 0, 0);
        CHECK.nodeDue(room, 4, 1, 5, 1, 0);
        CHECK.nodeDue(room, 5, 0, -1, -1, 0);
        CHECK.nodeDue(room, 23, 0, -1, -1, 0);
        CHECK.dueThrow("ofNode(24, 0)", room, INDEX, () -> room.ofNode(24, 0));
        CHECK.dueThrow("ofNode(-1, 9)", room, INDEX, () -> room.ofNode(-1, 9));
        CHECK.dueThrow("ofNode(0, 4)", room, ARGUMENT, () -> room.ofNode(0, 4));
        CHECK.dueThrow("ofNode(0, -1)", room, ARGUMENT, () -> room.ofNode(0, -1));
        CHECK.due("number(2, 2)", room.number(2, 2), 3);
        for (int[] bad : new int[][] {{2, 3}, {2, -1}, {3, 0}, {1, 0}, {0, 0}, {5, 0}, {24, 0}, {-1, 0}}) {
            CHECK.dueThrow("number(" + bad[0] + ", " + bad[1] + ")", room, INDEX, () -> room.number(bad[0], bad[1]));
        }
        CHECK.due("NODES", room.many(0), 5);
        CHECK.due("FILES", room.many(1), 2);
        CHECK.dueThrow("many(10)", room, ARGUMENT, () -> room.many(10));
        CHECK.dueThrow("many(-1)", room, ARGUMENT, () -> room.many(-1));
        Check.run(room, "TAKE 7 8 AND TAKE 9 AND WRITE 6 #4");
        CHECK.nodeDue(room, 2, 2, 6, 0, 1);
    }

    private static void means() {
        ShellsmithRoom room = new ShellsmithRoom();
        CHECK.due("meanNumber() without any", room.meanNumber(), 0.0);
        Check.run(room, "WRITE 1");
        CHECK.due("meanNumber() of an empty FILE", room.meanNumber(), 0.0);
        Check.run(room, "WRITE 1 #7");
        CHECK.due("meanNumber() of 7", room.meanNumber(), 7.0);
        Check.run(room, "WRITE 1 #1 #2");
        CHECK.due("meanNumber() of 1 2", room.meanNumber(), 1.5);
        Check.run(room, "MAKE 2 AND WRITE 2 2 #1");
        CHECK.due("meanNumber() of 1 2 1", room.meanNumber(), 4.0 / 3.0);
        Check.run(room, "TAKE STAR AND TAKE 2 STAR");
        CHECK.due("meanNumber() behind TAKE", room.meanNumber(), 0.0);
    }
}
