/** Promises 16, 17, 18 and 22: JOBS, their STEPS, signals to them, and when they are over. */
public final class JobsTest {
    private static final Check CHECK = new Check("JobsTest");
    private static final Class<?> ARGUMENT = IllegalArgumentException.class;
    private static final Class<?> INDEX = IndexOutOfBoundsException.class;

    public static void main(String[] args) {
        coming();
        steps();
        joins();
        pipes();
        order();
        working();
        holding();
        ending();
        arguments();
        overIn();
        overInChangesOthers();
        CHECK.end();
    }

    private static void coming() {
        ShellsmithRoom room = Check.after("WAIT #9 BEHIND", "WAIT #8 BEHIND", "WAIT #7 BEHIND");
        CHECK.due("JOBS", room.many(3), 3);
        CHECK.due("no number is free", Check.run(room, "MAKE 1 BEHIND"), 0);
        CHECK.due("nothing is done", room.many(0), 1);
        CHECK.jobDue(room, 0, 1, 6, 0, 0);
        CHECK.jobDue(room, 1, 1, 6, 0, 0);
        CHECK.jobDue(room, 2, 1, 6, 0, 0);
        room.signal(1, 2);
        CHECK.due("a number is free", Check.run(room, "MAKE 1 BEHIND"), 1);
        CHECK.jobDue(room, 1, 1, 1, 0, 0);
        CHECK.due("not run yet", room.many(0), 1);
        CHECK.due("a number that comes free first of all", Check.run(room, "MAKE 2 BEHIND"), 1);
        CHECK.due("the one ahead was run", room.ofNode(1, 1), 1);
        CHECK.due("over by itself", room.many(9), 1);
        CHECK.due("JOBS", room.many(3), 3);
    }

    private static void steps() {
        ShellsmithRoom room = Check.after("WAIT #2 AND MAKE 1 AND WAIT #1 BEHIND");
        CHECK.jobDue(room, 0, 3, 2, 0, 0);
        Check.run(room, "1");
        CHECK.jobDue(room, 0, 3, 2, 0, 0);
        Check.run(room, "GO 5");
        CHECK.jobDue(room, 0, 3, 1, 0, 0);
        Check.run(room, "GO UP");
        CHECK.jobDue(room, 0, 2, 1, 0, 0);
        CHECK.due("MAKE 1 is to come", room.many(0), 1);
        CHECK.due("the JOB's STEP is first of all", Check.run(room, "GO 1"), 1);
        CHECK.jobDue(room, 0, 1, 1, 0, 0);
        CHECK.due("JOBS over", room.many(9), 0);
        Check.run(room, "GO UP");
        CHECK.due("JOBS", room.many(3), 0);
        CHECK.due("JOBS over", room.many(9), 1);
        CHECK.dueThrow("ofJob(0, 0)", room, INDEX, () -> room.ofJob(0, 0));
    }

    private static void joins() {
        ShellsmithRoom room = Check.after("GO 7 AND MAKE 1 PIPE MAKE 2 OR MAKE 3 OR MAKE 4 BEHIND");
        CHECK.jobDue(room, 0, 5, 1, 0, 0);
        Check.run(room, "WAIT #1");
        CHECK.jobDue(room, 0, 2, 1, 0, 0);
        Check.run(room, "WAIT #1");
        CHECK.due("over, with one left out at the end", room.many(3), 0);
        CHECK.due("JOBS over", room.many(9), 1);
        CHECK.due("NODES", room.many(0), 2);
        CHECK.due("the NAME", room.ofNode(1, 1), 3);
    }

    private static void pipes() {
        ShellsmithRoom room = Check.after("WRITE 1 #9 #4", "SHOW 1 PIPE WAIT #2 PIPE SORT PIPE WRITE 2 AND WRITE 3 BEHIND");
        Check.run(room, "WRITE 1 #8 #7");
        CHECK.jobDue(room, 0, 4, 2, 0, 0);
        Check.run(room, "SHOW 1 PIPE SUM");
        CHECK.jobDue(room, 0, 4, 1, 0, 0);
        CHECK.due("the OUTPUT is that of the LINE", Check.output(room), "15");
        Check.run(room, "WAIT #1");
        CHECK.jobDue(room, 0, 3, 1, 0, 0);
        Check.run(room, "WAIT #1");
        Check.run(room, "WAIT #1");
        CHECK.due("what the PIPE brought", Check.file(room, 2), "4 9");
        Check.run(room, "WAIT #1");
        CHECK.due("nothing behind AND", Check.file(room, 3), "");
        CHECK.due("JOBS", room.many(3), 0);
    }

    private static void order() {
        ShellsmithRoom room = Check.after("WAIT #2 AND WRITE 1 #1 BEHIND", "WAIT #1 AND WRITE 1 #2 BEHIND");
        Check.run(room, "WAIT #1");
        Check.run(room, "SHOW 1");
        CHECK.due("by numbers: the later one has written last", Check.output(room), "2");
    }

    private static void working() {
        ShellsmithRoom room = Check.after("MAKE 1", "MAKE 1 2", "GO 1", "GO 2 AND WAIT #5 AND TAKE UP 2 BEHIND");
        CHECK.jobDue(room, 0, 3, 1, 0, 1);
        Check.run(room, "GO UP");
        CHECK.jobDue(room, 0, 2, 5, 0, 2);
        CHECK.due("the shell has its own", room.many(2), 0);
        CHECK.due("TAKE of a JOB's", Check.run(room, "TAKE 1 2"), 0);
        room.signal(0, 0);
        CHECK.due("TAKE of a HELD JOB's", Check.run(room, "TAKE 1 2"), 0);
        Check.type(room, "TAKE 1 2");
        CHECK.due("dry", room.dry(0), 0);
        room.signal(0, 1);
        for (int k = 0; k < 5; k++) {
            Check.run(room, "WAIT #1");
        }
        CHECK.due("it can't TAKE its own", room.ofNode(2, 0), 1);
        CHECK.due("JOBS", room.many(3), 0);
        CHECK.due("TAKE behind it", Check.run(room, "TAKE 1 2"), 1);
        Check.run(room, "TAKE 1 BEHIND");
        CHECK.due("the shell goes where the JOB would TAKE", Check.run(room, "GO 1"), 0);
        ShellsmithRoom other = Check.after("MAKE 1", "WAIT #1 AND TAKE 1 BEHIND", "GO 1", "WAIT #1");
        CHECK.due("a JOB can't TAKE the shell's", other.ofNode(1, 0), 1);
    }

    private static void holding() {
        ShellsmithRoom room = Check.after("WAIT #3 BEHIND");
        CHECK.due("signal(0, 0)", room.signal(0, 0), 1);
        Check.run(room, "WAIT #1");
        CHECK.jobDue(room, 0, 1, 3, 1, 0);
        CHECK.due("held twice", room.signal(0, 0), 1);
        CHECK.due("signal(0, 1)", room.signal(0, 1), 1);
        Check.run(room, "WAIT #1");
        CHECK.jobDue(room, 0, 1, 2, 0, 0);
        room.signal(0, 0);
        room.signal(0, 2);
        Check.run(room, "WAIT #3 BEHIND");
        CHECK.jobDue(room, 0, 1, 3, 0, 0);
    }

    private static void ending() {
        ShellsmithRoom room = Check.after("WAIT #3 AND MAKE 1 BEHIND", "WAIT #2 BEHIND");
        CHECK.due("signal(0, 2)", room.signal(0, 2), 2);
        CHECK.due("JOBS", room.many(3), 1);
        CHECK.due("not over by itself", room.many(9), 0);
        CHECK.dueThrow("signal(0, 2) anew", room, INDEX, () -> room.signal(0, 2));
        CHECK.jobDue(room, 1, 1, 2, 0, 0);
        CHECK.due("its number is free", Check.run(room, "GO UP OR GO UP BEHIND"), 1);
        CHECK.jobDue(room, 0, 2, 1, 0, 0);
    }

    private static void arguments() {
        ShellsmithRoom room = Check.after("WAIT #3 BEHIND");
        for (int job : new int[] {-1, 1, 2, 3, Integer.MAX_VALUE}) {
            CHECK.dueThrow("ofJob(" + job + ", 9)", room, INDEX, () -> room.ofJob(job, 9));
            CHECK.dueThrow("signal(" + job + ", 9)", room, INDEX, () -> room.signal(job, 9));
        }
        for (int what : new int[] {-1, 4}) {
            CHECK.dueThrow("ofJob(0, " + what + ")", room, ARGUMENT, () -> room.ofJob(0, what));
        }
        for (int signal : new int[] {-1, 3}) {
            CHECK.dueThrow("signal(0, " + signal + ")", room, ARGUMENT, () -> room.signal(0, signal));
        }
    }

    private static void overIn() {
        ShellsmithRoom room = new ShellsmithRoom();
        CHECK.due("without JOBS", room.overIn(60), 0);
        CHECK.dueThrow("overIn(0)", room, ARGUMENT, () -> room.overIn(0));
        CHECK.dueThrow("overIn(61)", room, ARGUMENT, () -> room.overIn(61));
        Check.run(room, "WAIT #9 OR GO 1 OR GO 2 BEHIND");
        Check.run(room, "GO 1 OR GO 2 OR GO 3 BEHIND");
        Check.run(room, "WAIT #5 AND WAIT #5 BEHIND");
        CHECK.due("overIn(1)", room.overIn(1), 0);
        CHECK.due("overIn(2)", room.overIn(2), 1);
        CHECK.due("overIn(6)", room.overIn(6), 1);
        CHECK.due("overIn(7)", room.overIn(7), 2);
        CHECK.due("overIn(9)", room.overIn(9), 2);
        CHECK.due("overIn(10)", room.overIn(10), 3);
        room.signal(0, 0);
        CHECK.due("overIn(60) with one HELD", room.overIn(60), 2);
        CHECK.due("nothing is changed", room.ofJob(2, 1), 5);
    }

    private static void overInChangesOthers() {
        ShellsmithRoom room = Check.after("WAIT #1 AND MAKE 1 BEHIND", "WAIT #2 AND GO 1 AND WAIT #9 BEHIND");
        CHECK.due("what one JOB does counts for another", room.overIn(5), 1);
        CHECK.due("with enough LINES", room.overIn(12), 2);
        CHECK.due("nothing has come to be", room.many(0), 1);
        room.signal(0, 2);
        CHECK.due("without the other", room.overIn(3), 1);
        CHECK.due("no JOB has gone", room.many(3), 1);
    }
}
