/** Section 4 of the document's Terms, sentence by sentence: JOBS and their STEPS. */
public final class EdgesOfJobsTest {
    private static final Check CHECK = new Check("EdgesOfJobsTest");
    private static final Class<?> INDEX = IndexOutOfBoundsException.class;

    public static void main(String[] args) {
        upToThree();
        noneFree();
        smallestFreeNumber();
        numberFreeByTheSameLine();
        rightWhateverItDoes();
        workingOfItsOwn();
        waitTakesItsNumber();
        otherCommandsTakeOne();
        runWithTheLastStep();
        nextOneToBeRun();
        overWithNothingLeft();
        overAtTheLastStep();
        heldTakesNoSteps();
        heldAtTheLastStep();
        heldNoMore();
        faultLetsNoStep();
        eachOtherLineLetsAStep();
        onlyLinesLetSteps();
        stepsComeFirst();
        stepsByNumbers();
        pipesInJobs();
        CHECK.end();
    }

    private static ShellsmithRoom three() {
        return Check.after("WAIT #9 BEHIND", "WAIT #9 BEHIND", "WAIT #9 BEHIND");
    }

    private static void upToThree() {
        ShellsmithRoom room = new ShellsmithRoom();
        for (int job = 0; job < 3; job++) {
            int number = job;
            CHECK.dueThrow("no JOB yet", room, INDEX, () -> room.ofJob(number, 0));
            CHECK.runDue(room, "WAIT #9 BEHIND", 1, "");
            CHECK.due("JOBS", room.many(3), job + 1);
            CHECK.jobDue(room, job, 1, 9, 0, 0);
        }
        CHECK.jobDue(room, 0, 1, 7, 0, 0);
        CHECK.jobDue(room, 1, 1, 8, 0, 0);
    }

    private static void noneFree() {
        ShellsmithRoom room = three();
        Check.run(room, "SHOW UP OR MAKE 1");
        CHECK.runDue(room, "MAKE 1 BEHIND", 0, "");
        CHECK.due("three JOBS", room.many(3), 3);
        CHECK.due("nothing is done", room.many(0), 1);
        CHECK.due("it was run without a FAULT", room.many(8), 5);
        CHECK.due("it is KEPT", room.kept(0, 2), 33);
        CHECK.jobDue(room, 0, 1, 5, 0, 0);
        CHECK.jobDue(room, 1, 1, 6, 0, 0);
        CHECK.jobDue(room, 2, 1, 7, 0, 0);
        CHECK.dueThrow("no fourth JOB", room, INDEX, () -> room.ofJob(3, 0));
        Check.run(room, "MAKE 2");
        CHECK.due("it is run never", room.ofNode(1, 1), 2);
    }

    private static void smallestFreeNumber() {
        ShellsmithRoom room = three();
        room.signal(2, 2);
        room.signal(1, 2);
        CHECK.runDue(room, "GO 1 OR GO 2 BEHIND", 1, "");
        CHECK.jobDue(room, 1, 2, 1, 0, 0);
        CHECK.dueThrow("2 is free still", room, INDEX, () -> room.ofJob(2, 0));
        room.signal(0, 2);
        CHECK.runDue(room, "GO 1 OR GO 2 OR GO 3 BEHIND", 1, "");
        CHECK.jobDue(room, 0, 3, 1, 0, 0);
        CHECK.dueThrow("2 is free still", room, INDEX, () -> room.ofJob(2, 0));
        CHECK.runDue(room, "WAIT #4 BEHIND", 1, "");
        CHECK.due("over by itself", room.many(9), 1);
        CHECK.jobDue(room, 1, 1, 4, 0, 0);
    }

    private static void numberFreeByTheSameLine() {
        ShellsmithRoom room = Check.after("WAIT #3 BEHIND", "WAIT #9 BEHIND", "WAIT #9 BEHIND");
        CHECK.runDue(room, "WAIT #5 BEHIND", 1, "");
        CHECK.jobDue(room, 0, 1, 5, 0, 0);
        CHECK.due("the one ahead is over", room.many(9), 1);
    }

    private static void rightWhateverItDoes() {
        ShellsmithRoom room = Check.after("WRITE 1 #5", "SHOW 1");
        CHECK.runDue(room, "GO 5 BEHIND", 1, "");
        Check.run(room, "SHOW 1");
        CHECK.runDue(room, "SHOW 1 BEHIND", 1, "");
        Check.run(room, "GO UP");
        CHECK.due("what a JOB SHOWS is no OUTPUT of a LINE", room.many(7), 0);
        CHECK.due("both are over", room.many(9), 2);
    }

    private static void workingOfItsOwn() {
        ShellsmithRoom room = Check.after("MAKE 1", "MAKE 1 2", "GO 1", "GO 2 AND MAKE 3 AND WAIT #9 BEHIND");
        CHECK.jobDue(room, 0, 3, 1, 0, 1);
        Check.run(room, "GO UP");
        CHECK.jobDue(room, 0, 2, 1, 0, 2);
        CHECK.due("that of the shell", room.many(2), 0);
        Check.run(room, "GO UP");
        CHECK.nodeDue(room, 3, 1, 3, 2, 0);
        CHECK.jobDue(room, 0, 1, 9, 0, 2);
        Check.run(room, "WAIT #1 BEHIND");
        CHECK.jobDue(room, 1, 1, 1, 0, 0);
    }

    private static void waitTakesItsNumber() {
        for (int steps = 1; steps <= 9; steps++) {
            ShellsmithRoom room = Check.after("WAIT #" + steps + " BEHIND");
            for (int left = steps; left > 0; left--) {
                CHECK.jobDue(room, 0, 1, left, 0, 0);
                Check.run(room, "GO UP");
            }
            CHECK.due("over behind its STEPS, " + steps, room.many(3), 0);
            CHECK.due("over by itself", room.many(9), 1);
        }
    }

    private static void otherCommandsTakeOne() {
        String[] texts = {"MAKE 1", "WRITE 1 #9", "SHOW UP", "TAKE 1", "GO UP", "GO UP PIPE SORT", "GO UP PIPE SUM"};
        for (String text : texts) {
            int commands = text.contains("PIPE") ? 2 : 1;
            ShellsmithRoom room = Check.after(text + " BEHIND");
            for (int left = commands; left > 0; left--) {
                CHECK.jobDue(room, 0, left, 1, 0, 0);
                Check.run(room, "GO UP");
            }
            CHECK.due(text + " BEHIND is over", room.many(3), 0);
        }
    }

    private static void runWithTheLastStep() {
        ShellsmithRoom room = Check.after("MAKE 1 AND WAIT #2 AND MAKE 2 BEHIND");
        CHECK.due("nothing yet", room.many(0), 1);
        Check.run(room, "GO UP");
        CHECK.due("MAKE 1 was run", room.many(0), 2);
        CHECK.jobDue(room, 0, 2, 2, 0, 0);
        Check.run(room, "GO UP");
        CHECK.jobDue(room, 0, 2, 1, 0, 0);
        Check.run(room, "GO UP");
        CHECK.jobDue(room, 0, 1, 1, 0, 0);
        CHECK.due("MAKE 2 not yet", room.many(0), 2);
        Check.run(room, "GO UP");
        CHECK.due("MAKE 2 was run", room.many(0), 3);
    }

    private static void nextOneToBeRun() {
        ShellsmithRoom room = Check.after("GO 5 AND MAKE 1 PIPE MAKE 2 OR WAIT #3 AND MAKE 4 BEHIND");
        CHECK.jobDue(room, 0, 5, 1, 0, 0);
        Check.run(room, "GO UP");
        CHECK.jobDue(room, 0, 2, 3, 0, 0);
        for (int k = 0; k < 3; k++) {
            Check.run(room, "GO UP");
        }
        CHECK.jobDue(room, 0, 1, 1, 0, 0);
        Check.run(room, "GO UP");
        CHECK.nodeDue(room, 1, 1, 4, 0, 0);
        CHECK.due("NODES", room.many(0), 2);
        ShellsmithRoom piped = Check.after("GO 5 PIPE MAKE 1 BEHIND", "GO UP");
        CHECK.jobDue(piped, 0, 1, 1, 0, 0);
    }

    private static void overWithNothingLeft() {
        ShellsmithRoom failed = Check.after("GO 5 AND MAKE 1 AND MAKE 2 BEHIND", "GO UP");
        CHECK.due("what is left is not to be run", failed.many(3), 0);
        CHECK.due("over by itself", failed.many(9), 1);
        CHECK.dueThrow("no such JOB", failed, INDEX, () -> failed.ofJob(0, 0));
        ShellsmithRoom right = Check.after("GO UP OR MAKE 1 PIPE MAKE 2 BEHIND", "GO UP");
        CHECK.due("what is left is not to be run", right.many(3), 0);
        CHECK.due("over by itself", right.many(9), 1);
        CHECK.runDue(right, "WAIT #7 BEHIND", 1, "");
        CHECK.jobDue(right, 0, 1, 7, 0, 0);
    }

    private static void overAtTheLastStep() {
        ShellsmithRoom room = Check.after("WAIT #2 BEHIND", "GO UP");
        CHECK.due("one STEP ahead of it", room.many(3), 1);
        CHECK.due("overIn(1)", room.overIn(1), 1);
        Check.run(room, "GO UP");
        CHECK.due("with its last STEP", room.many(3), 0);
        CHECK.due("overIn(1)", room.overIn(1), 0);
    }

    private static void heldTakesNoSteps() {
        ShellsmithRoom room = Check.after("WAIT #2 AND MAKE 1 BEHIND", "WAIT #9 BEHIND");
        room.signal(0, 0);
        for (int k = 0; k < 5; k++) {
            Check.run(room, "GO UP");
        }
        CHECK.jobDue(room, 0, 2, 1, 1, 0);
        CHECK.jobDue(room, 1, 1, 4, 0, 0);
        CHECK.due("JOBS, one of them HELD", room.many(3), 2);
    }

    private static void heldAtTheLastStep() {
        ShellsmithRoom room = Check.after("MAKE 1 BEHIND");
        room.signal(0, 0);
        Check.run(room, "GO UP");
        Check.run(room, "GO UP");
        CHECK.due("HELD with one STEP to go", room.many(0), 1);
        CHECK.due("overIn(60)", room.overIn(60), 0);
        room.signal(0, 1);
        CHECK.due("overIn(1)", room.overIn(1), 1);
        Check.run(room, "GO UP");
        CHECK.due("HELD no more", room.many(0), 2);
        CHECK.due("JOBS over", room.many(9), 1);
    }

    private static void heldNoMore() {
        ShellsmithRoom room = Check.after("WAIT #5 BEHIND");
        room.signal(0, 1);
        Check.run(room, "GO UP");
        CHECK.jobDue(room, 0, 1, 4, 0, 0);
        room.signal(0, 0);
        room.signal(0, 0);
        Check.run(room, "GO UP");
        CHECK.jobDue(room, 0, 1, 4, 1, 0);
        room.signal(0, 1);
        Check.run(room, "GO UP");
        CHECK.jobDue(room, 0, 1, 3, 0, 0);
        room.signal(0, 0);
        room.signal(0, 2);
        Check.run(room, "WAIT #5 BEHIND");
        CHECK.jobDue(room, 0, 1, 5, 0, 0);
    }

    private static void faultLetsNoStep() {
        for (String text : new String[] {"1", "GO", "SORT", "GO #1", "WAIT #1 BEHIND BEHIND"}) {
            ShellsmithRoom room = Check.after("WAIT #5 BEHIND", text);
            CHECK.jobDue(room, 0, 1, 5, 0, 0);
        }
    }

    private static void eachOtherLineLetsAStep() {
        for (String text : new String[] {"GO UP", "GO 5", "WAIT #9", "GO UP AND GO UP AND GO UP", "GO UP BEHIND"}) {
            ShellsmithRoom room = Check.after("WAIT #5 BEHIND", text);
            CHECK.jobDue(room, 0, 1, 4, 0, 0);
        }
    }

    private static void onlyLinesLetSteps() {
        ShellsmithRoom room = Check.after("WAIT #5 BEHIND");
        Check.type(room, "MAKE 1");
        room.dry(0);
        room.dryWith(1, 2);
        room.overIn(60);
        room.correct();
        room.complete(0);
        room.recall(0);
        room.digest();
        CHECK.jobDue(room, 0, 1, 5, 0, 0);
    }

    private static void stepsComeFirst() {
        ShellsmithRoom room = Check.after("MAKE 1 BEHIND");
        CHECK.runDue(room, "MAKE 1 1", 1, "");
        CHECK.nodeDue(room, 2, 1, 1, 1, 0);
        ShellsmithRoom other = Check.after("WRITE 1 #1", "WRITE 1 #2 BEHIND");
        CHECK.runDue(other, "SHOW 1", 1, "2");
        ShellsmithRoom taken = Check.after("MAKE 1", "TAKE 1 BEHIND");
        CHECK.runDue(taken, "GO 1", 0, "");
    }

    private static void stepsByNumbers() {
        ShellsmithRoom room = Check.after("WAIT #3 AND WRITE 5 #1 BEHIND", "WAIT #2 AND WRITE 5 #2 BEHIND",
            "WAIT #1 AND WRITE 5 #3 BEHIND", "GO UP");
        CHECK.due("all have one STEP to go", room.overIn(1), 3);
        CHECK.runDue(room, "SHOW 5", 1, "3");
        // The JOB that comes later has the smaller number here.
        ShellsmithRoom later = Check.after("WAIT #2 BEHIND", "WAIT #2 AND WRITE 5 #1 BEHIND",
            "WAIT #1 AND WRITE 5 #2 BEHIND", "GO UP");
        CHECK.due("both have one STEP to go", later.overIn(1), 2);
        CHECK.runDue(later, "SHOW 5", 1, "1");
    }

    private static void pipesInJobs() {
        ShellsmithRoom room = Check.after("WRITE 1 #3 #1", "SHOW 1 PIPE WAIT #2 PIPE SORT PIPE WRITE 2 #0 BEHIND");
        Check.run(room, "GO UP");
        Check.run(room, "WRITE 1 #9 AND SHOW 1");
        Check.run(room, "SHOW 1 PIPE SUM");
        Check.run(room, "GO UP");
        Check.run(room, "GO UP");
        CHECK.due("a JOB has an INPUT of its own", Check.file(room, 2), "0 1 3");
        ShellsmithRoom joined = Check.after("WRITE 1 #3", "SHOW 1 AND WRITE 2 BEHIND", "SHOW 1", "GO UP");
        CHECK.due("behind AND there is none", joined.ofNode(2, 3), 0);
        CHECK.due("but it was written", joined.ofNode(2, 0), 2);
    }
}
