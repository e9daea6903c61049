import java.math.BigInteger;
import java.util.function.IntUnaryOperator;

/** Promises 1 to 24, one by one: each Throws line, each NONE, each 0 without any, and the ends of what is asked. */
public final class EdgesOfCallsTest {
    private static final Check CHECK = new Check("EdgesOfCallsTest");
    private static final Class<?> ARGUMENT = IllegalArgumentException.class;
    private static final Class<?> STATE = IllegalStateException.class;
    private static final Class<?> INDEX = IndexOutOfBoundsException.class;

    private static final int LEAST = Integer.MIN_VALUE;
    private static final int GREATEST = Integer.MAX_VALUE;
    private static final int[] NO_TOKENS = {LEAST, -2, -1, 12, 13, 19, 28, 29, 34, 39, 100, 101, GREATEST};
    private static final String SIXTEEN = "GO UP UP UP UP UP UP UP UP UP UP UP UP UP UP UP";

    public static void main(String[] args) {
        promise1NewObject();
        promise2Token();
        promise3Erase();
        promise4Written();
        promise5Line();
        promise6Run();
        promise7Output();
        promise8Complete();
        promise9Kept();
        promise10Recall();
        promise11Search();
        promise11SearchIsForTheLatest();
        promise12Rule();
        promise13Correct();
        promise14OfNode();
        promise15Number();
        promise16OfJob();
        promise17Signal();
        promise18Many();
        promise18ManyCountsOn();
        promise19MeanNumber();
        promise20Dry();
        promise20DryWithFault();
        promise20DryOfNodes();
        promise20DryOfTheLastNodes();
        promise20DryOfOutputs();
        promise20DryOfJobs();
        promise21DryWith();
        promise22OverIn();
        promise23Far();
        promise24Digest();
        CHECK.end();
    }

    private static void refused(String what, ShellsmithRoom room, Class<?> want, IntUnaryOperator call, int... bad) {
        for (int value : bad) {
            CHECK.dueThrow(what + " of " + value, room, want, () -> call.applyAsInt(value));
        }
    }

    private static ShellsmithRoom typed(String text, String... lines) {
        ShellsmithRoom room = Check.after(lines);
        Check.type(room, text);
        return room;
    }

    private static void promise1NewObject() {
        ShellsmithRoom room = new ShellsmithRoom();
        CHECK.nodeDue(room, 0, 1, -1, -1, 0);
        for (int node = 1; node < 24; node++) {
            CHECK.nodeDue(room, node, 0, -1, -1, 0);
            CHECK.due("far(" + node + ")", room.far(node), -1);
        }
        for (int what = 1; what < 10; what++) {
            CHECK.due("many(" + what + ")", room.many(what), 0);
        }
        CHECK.due("NODES", room.many(0), 1);
        for (int token : Check.allTokens()) {
            CHECK.due("rule(" + token + ")", room.rule(token), -1);
        }
        CHECK.due("another object is not touched", Check.after("MAKE 1").many(0), 2);
        CHECK.due("NODES still", room.many(0), 1);
    }

    private static void promise2Token() {
        for (int token : Check.allTokens()) {
            ShellsmithRoom room = new ShellsmithRoom();
            CHECK.due("token(" + token + ")", room.token(token), 1);
            CHECK.due("it stands there", room.written(0), token);
        }
        ShellsmithRoom room = typed("GO UP UP UP UP UP UP UP UP UP UP UP UP UP UP");
        refused("token()", room, ARGUMENT, room::token, NO_TOKENS);
        CHECK.due("the sixteenth", room.token(0), 16);
        refused("token() with 16", room, STATE, room::token, 0, 33, 99);
        refused("token() with 16, of no TOKEN", room, ARGUMENT, room::token, NO_TOKENS);
        CHECK.due("the last one stays", room.written(15), 0);
        CHECK.due("TOKENS of the LINE", room.many(6), 16);
    }

    private static void promise3Erase() {
        ShellsmithRoom room = typed(SIXTEEN);
        refused("erase()", room, ARGUMENT, room::erase, LEAST, -1, 0, 17, 18, GREATEST);
        CHECK.due("erase(1) of 16", room.erase(1), 15);
        CHECK.due("erase(14) of 15", room.erase(14), 1);
        CHECK.due("the first one stays", room.written(0), 24);
        CHECK.due("erase(2) of 1", room.erase(2), 0);
        CHECK.due("erase(1) of none", room.erase(1), 0);
        CHECK.due("erase(16) of none", room.erase(16), 0);
        refused("erase() of none", room, ARGUMENT, room::erase, 0, 17);
        Check.type(room, SIXTEEN);
        CHECK.due("erase(16) of 16", room.erase(16), 0);
        CHECK.due("token() behind it", room.token(5), 1);
        CHECK.due("its place", room.written(0), 5);
    }

    private static void promise4Written() {
        ShellsmithRoom room = new ShellsmithRoom();
        refused("written() of none", room, INDEX, room::written, LEAST, -1, 0, 1, GREATEST);
        Check.type(room, "GO 5");
        CHECK.due("written(1)", room.written(1), 5);
        refused("written() of two", room, INDEX, room::written, LEAST, -1, 2, 15, GREATEST);
        Check.type(room, SIXTEEN);
        CHECK.due("written(15)", room.written(15), 10);
        refused("written() of sixteen", room, INDEX, room::written, -1, 16);
        room.run();
        refused("written() behind run()", room, INDEX, room::written, 0);
        Check.type(room, "1 2 3");
        room.erase(1);
        refused("written() of what was erased", room, INDEX, room::written, 2);
    }

    private static void promise5Line() {
        ShellsmithRoom room = new ShellsmithRoom();
        CHECK.due("FAULT of an empty LINE", room.line(0), 3);
        CHECK.due("its place", room.line(1), 0);
        CHECK.due("its COMMANDS", room.line(2), 0);
        refused("line()", room, ARGUMENT, room::line, LEAST, -1, 3, GREATEST);
        Check.type(room, "GO UP AND GO UP");
        CHECK.due("no FAULT", room.line(0), 0);
        CHECK.due("no place", room.line(1), -1);
        CHECK.due("COMMANDS", room.line(2), 2);
        room.token(33);
        CHECK.due("COMMANDS with BEHIND", room.line(2), 2);
        room.token(1);
        CHECK.due("COMMANDS with a FAULT", room.line(2), 0);
    }

    private static void promise6Run() {
        ShellsmithRoom room = new ShellsmithRoom();
        CHECK.dueThrow("run() of none", room, STATE, room::run);
        String[] lines = {"MAKE 1", "MAKE 1", "MAKE", SIXTEEN, "MAKE 2 AND GO 5", "MAKE 3 BEHIND", "MAKE 4 AND"};
        int[] due = {1, 0, -1, 1, 0, 1, -1};
        for (int k = 0; k < lines.length; k++) {
            CHECK.due(lines[k], Check.run(room, lines[k]), due[k]);
            CHECK.due("the LINE is empty then", room.many(6), 0);
            CHECK.dueThrow("run() behind it", room, STATE, room::run);
        }
        CHECK.due("nothing is run with a FAULT", room.many(0), 3);
        CHECK.due("LINES without a FAULT", room.many(8), 5);
    }

    private static void promise7Output() {
        ShellsmithRoom room = new ShellsmithRoom();
        refused("output() of a new object", room, INDEX, room::output, LEAST, -1, 0, GREATEST);
        Check.run(room, "WRITE 1 #7 #8");
        refused("output() of WRITE", room, INDEX, room::output, 0);
        Check.run(room, "SHOW 1");
        CHECK.due("output(0)", room.output(0), 7);
        CHECK.due("output(1)", room.output(1), 8);
        refused("output() of two", room, INDEX, room::output, LEAST, -1, 2, 16, GREATEST);
        Check.type(room, "SHOW STAR");
        CHECK.due("output(1) while a LINE is written", room.output(1), 8);
        Check.run(room, "SHOW 1 #1");
        CHECK.due("the OUTPUT of a LINE with a FAULT", room.many(7), 0);
        refused("output() of a LINE with a FAULT", room, INDEX, room::output, 0);
        for (String text : new String[] {"SHOW 2", "SHOW 1 BEHIND", "SHOW 1 PIPE GO 9"}) {
            Check.run(room, "SHOW 1");
            Check.run(room, text);
            CHECK.due(text + ": OUTPUT", room.many(7), 0);
            refused("output() of " + text, room, INDEX, room::output, 0);
        }
    }

    private static void promise8Complete() {
        ShellsmithRoom room = new ShellsmithRoom();
        CHECK.due("complete(0) of a new object", room.complete(0), 20);
        CHECK.due("complete(5) of a new object", room.complete(5), 27);
        refused("complete()", room, INDEX, room::complete, LEAST, -1, 6, 7, 83, 84, 99, 100, GREATEST);
        ShellsmithRoom writing = typed("WRITE 1");
        CHECK.due("all that can COME behind WRITE 1", Check.completions(writing).split(" ").length, 75);
        refused("complete() of 75", writing, INDEX, writing::complete, -1, 75, GREATEST);
        ShellsmithRoom none = typed("GO #1");
        refused("complete() of a LINE with a FAULT", none, INDEX, none::complete, -1, 0);
        ShellsmithRoom full = typed(SIXTEEN);
        refused("complete() of a LINE with 16", full, INDEX, full::complete, -1, 0);
        full.erase(1);
        CHECK.due("complete(0) with 15", full.complete(0), 0);
        CHECK.due("complete(14) with 15", full.complete(14), 33);
        refused("complete() with 15", full, INDEX, full::complete, 15);
        ShellsmithRoom behind = typed("GO UP BEHIND");
        refused("complete() behind BEHIND", behind, INDEX, behind::complete, 0);
    }

    private static void promise9Kept() {
        ShellsmithRoom room = new ShellsmithRoom();
        refused("kept(.., 0) of none", room, INDEX, kept -> room.kept(kept, 0), LEAST, -1, 0, 11, GREATEST);
        Check.run(room, "GO UP UP");
        CHECK.due("kept(0, 2)", room.kept(0, 2), 10);
        refused("kept(.., 0) of one", room, INDEX, kept -> room.kept(kept, 0), LEAST, -1, 1, 12, GREATEST);
        refused("kept(0, ..)", room, INDEX, k -> room.kept(0, k), LEAST, -1, 3, 15, 16, GREATEST);
        Check.run(room, "GO");
        refused("kept(.., 0) behind a FAULT", room, INDEX, kept -> room.kept(kept, 0), 1);
        Check.run(room, "GO 5");
        CHECK.due("kept(1, 2)", room.kept(1, 2), 10);
        refused("kept(0, 2) of a shorter one", room, INDEX, k -> room.kept(0, k), 2);
    }

    private static void promise10Recall() {
        ShellsmithRoom room = typed("1 2 3 4");
        refused("recall() of none", room, INDEX, room::recall, LEAST, -1, 0, GREATEST);
        Check.run(room, "GO UP");
        Check.run(room, SIXTEEN);
        Check.type(room, "1 2 3 4");
        refused("recall() of two", room, INDEX, room::recall, LEAST, -1, 2, 11, 12, GREATEST);
        CHECK.due("the LINE stays", room.written(3), 4);
        CHECK.due("recall(1)", room.recall(1), 2);
        CHECK.due("TOKENS of the LINE", room.many(6), 2);
        CHECK.due("written(1)", room.written(1), 10);
        CHECK.due("recall(0)", room.recall(0), 16);
        CHECK.due("KEPT LINES", room.many(4), 2);
        room.erase(15);
        CHECK.due("the KEPT one stays", room.kept(0, 15), 10);
        room.recall(1);
        CHECK.due("a LINE recalled is run", room.run(), 1);
        CHECK.due("KEPT LINES", room.many(4), 3);
    }

    private static void promise11Search() {
        ShellsmithRoom room = Check.after("GO 1 2", "SHOW 2 1 STAR");
        for (int first : NO_TOKENS) {
            refused("search(" + first + ", ..)", room, ARGUMENT, second -> room.search(first, second), -1, 1);
        }
        for (int second : NO_TOKENS) {
            if (second != -1) {
                CHECK.dueThrow("search(1, " + second + ")", room, ARGUMENT, () -> room.search(1, second));
            }
        }
        CHECK.due("search(1, NONE)", room.search(1, -1), 0);
        CHECK.due("search(24, NONE)", room.search(24, -1), 1);
        CHECK.due("NONE, for none behind it", room.search(11, -1), 0);
        CHECK.due("a second one behind the last", room.search(11, 22), -1);
        CHECK.due("not directly behind", room.search(24, 2), -1);
        CHECK.due("the other way round", room.search(1, 24), -1);
        CHECK.due("no LINE", room.search(3, -1), -1);
        CHECK.due("not over the end of a LINE", room.search(11, 24), -1);
        ShellsmithRoom none = typed("GO 1 2");
        CHECK.due("with no KEPT LINE", none.search(24, -1), -1);
        CHECK.due("with no KEPT LINE", none.search(1, 2), -1);
    }

    private static void promise11SearchIsForTheLatest() {
        ShellsmithRoom room = Check.after("GO 1 2", "GO 1 3", "GO 1 2", "GO 2 1");
        CHECK.due("search(1, 2)", room.search(1, 2), 1);
        CHECK.due("search(1, 3)", room.search(1, 3), 2);
        CHECK.due("search(2, 1)", room.search(2, 1), 0);
        CHECK.due("search(2, NONE)", room.search(2, -1), 0);
        for (int k = 0; k < 10; k++) {
            Check.run(room, "WAIT #1");
        }
        CHECK.due("of the oldest KEPT", room.search(1, 2), 11);
        CHECK.due("of one that is KEPT no more", room.search(1, 3), -1);
    }

    private static void promise12Rule() {
        ShellsmithRoom room = Check.after("GO 5", "GO UP");
        refused("rule()", room, ARGUMENT, room::rule, NO_TOKENS);
        for (int token : Check.allTokens()) {
            CHECK.due("rule(" + token + ")", room.rule(token), token == 5 ? 10 : -1);
        }
    }

    private static void promise13Correct() {
        ShellsmithRoom room = new ShellsmithRoom();
        CHECK.due("of an empty LINE", room.correct(), -1);
        Check.type(room, "GO 5");
        CHECK.due("without a RULE", room.correct(), -1);
        room.run();
        Check.run(room, "GO UP");
        Check.type(room, "GO 5");
        CHECK.due("with one", room.correct(), 1);
        CHECK.due("of what was CORRECTED", room.correct(), -1);
        CHECK.due("it stays", room.written(1), 10);
        Check.type(room, "GO 5 AND GO 5");
        CHECK.due("two places that need it", room.correct(), -1);
        CHECK.due("the first stays", room.written(1), 5);
        CHECK.due("the second stays", room.written(4), 5);
    }

    private static void promise14OfNode() {
        ShellsmithRoom room = Check.after("MAKE 0", "WRITE 0 9 #1 #2", "MAKE 0 8", "MAKE 0 8 7");
        CHECK.nodeDue(room, 0, 1, -1, -1, 1);
        CHECK.nodeDue(room, 1, 1, 0, 0, 2);
        CHECK.nodeDue(room, 2, 2, 9, 1, 2);
        CHECK.nodeDue(room, 3, 1, 8, 1, 1);
        CHECK.nodeDue(room, 4, 1, 7, 3, 0);
        CHECK.nodeDue(room, 5, 0, -1, -1, 0);
        CHECK.nodeDue(room, 23, 0, -1, -1, 0);
        refused("ofNode(.., 0)", room, INDEX, node -> room.ofNode(node, 0), LEAST, -1, 24, GREATEST);
        refused("ofNode(.., 4)", room, INDEX, node -> room.ofNode(node, 4), LEAST, -1, 24, GREATEST);
        refused("ofNode(0, ..)", room, ARGUMENT, what -> room.ofNode(0, what), LEAST, -1, 4, GREATEST);
        refused("ofNode(23, ..)", room, ARGUMENT, what -> room.ofNode(23, what), LEAST, -1, 4, GREATEST);
        Check.run(room, "TAKE 0 9");
        CHECK.nodeDue(room, 2, 0, -1, -1, 0);
        CHECK.nodeDue(room, 1, 1, 0, 0, 1);
    }

    private static void promise15Number() {
        ShellsmithRoom room = Check.after("WRITE 1 #1 #2 #3 #4 #5 #6 #7 #8", "MAKE 2", "WRITE 3", "WRITE 4 #9");
        CHECK.due("number(1, 0)", room.number(1, 0), 1);
        CHECK.due("number(1, 7)", room.number(1, 7), 8);
        CHECK.due("number(4, 0)", room.number(4, 0), 9);
        refused("number(1, ..)", room, INDEX, k -> room.number(1, k), LEAST, -1, 8, 16, GREATEST);
        refused("number(4, ..)", room, INDEX, k -> room.number(4, k), -1, 1, 7);
        refused("number(.., 0)", room, INDEX, node -> room.number(node, 0), LEAST, -1, 0, 2, 3, 5, 23, 24, GREATEST);
        Check.run(room, "WRITE 1 #5");
        refused("number(1, ..) behind WRITE", room, INDEX, k -> room.number(1, k), 1);
        Check.run(room, "TAKE 1");
        refused("number(1, ..) behind TAKE", room, INDEX, k -> room.number(1, k), 0);
        Check.run(room, "MAKE 5");
        refused("number(1, ..) of a DIRECTORY", room, INDEX, k -> room.number(1, k), 0);
    }

    private static void promise16OfJob() {
        ShellsmithRoom room = new ShellsmithRoom();
        refused("ofJob(.., 0) of none", room, INDEX, job -> room.ofJob(job, 0), LEAST, -1, 0, 1, 2, 3, GREATEST);
        refused("ofJob(.., 4) of none", room, INDEX, job -> room.ofJob(job, 4), -1, 0, 3);
        Check.run(room, "MAKE 7 AND GO 7");
        Check.run(room, "WAIT #4 AND GO UP PIPE SUM OR MAKE 1 BEHIND");
        CHECK.jobDue(room, 0, 4, 4, 0, 1);
        refused("ofJob(0, ..)", room, ARGUMENT, what -> room.ofJob(0, what), LEAST, -1, 4, GREATEST);
        refused("ofJob(.., 4)", room, INDEX, job -> room.ofJob(job, 4), LEAST, -1, 1, 2, 3, GREATEST);
        room.signal(0, 0);
        CHECK.jobDue(room, 0, 4, 4, 1, 1);
        room.signal(0, 2);
        refused("ofJob(.., 0) behind the signal 2", room, INDEX, job -> room.ofJob(job, 0), 0);
    }

    private static void promise17Signal() {
        ShellsmithRoom room = new ShellsmithRoom();
        refused("signal(.., 2) of none", room, INDEX, job -> room.signal(job, 2), LEAST, -1, 0, 1, 2, 3, GREATEST);
        Check.run(room, "WAIT #4 AND GO UP OR MAKE 1 BEHIND");
        Check.run(room, "WAIT #9 BEHIND");
        refused("signal(0, ..)", room, ARGUMENT, signal -> room.signal(0, signal), LEAST, -1, 3, GREATEST);
        refused("signal(.., 3)", room, INDEX, job -> room.signal(job, 3), LEAST, -1, 2, 3, GREATEST);
        CHECK.due("signal(0, 0)", room.signal(0, 0), 3);
        CHECK.due("HELD", room.ofJob(0, 2), 1);
        CHECK.due("the other one is not", room.ofJob(1, 2), 0);
        CHECK.due("signal(0, 1)", room.signal(0, 1), 3);
        CHECK.due("HELD no more", room.ofJob(0, 2), 0);
        CHECK.due("signal(0, 2)", room.signal(0, 2), 3);
        CHECK.due("JOBS", room.many(3), 1);
        CHECK.due("none over by itself", room.many(9), 0);
        refused("signal(0, ..) behind it", room, INDEX, signal -> room.signal(0, signal), 0, 1, 2, 3);
        CHECK.due("signal(1, 2)", room.signal(1, 2), 1);
        CHECK.due("JOBS", room.many(3), 0);
        ShellsmithRoom taking = Check.after("MAKE 1", "GO 1", "WAIT #9 BEHIND", "GO UP");
        taking.signal(0, 2);
        CHECK.due("TAKE of the WORKING one of a JOB that is over", Check.run(taking, "TAKE 1"), 1);
    }

    private static void promise18Many() {
        ShellsmithRoom room = Check.after("MAKE 1", "WRITE 2 #1 #2", "WRITE 3", "GO 9", "GO UP", "GO 1", "GO #1",
            "WAIT #1 BEHIND", "WAIT #9 BEHIND", "WAIT #9 BEHIND", "SHOW UP 2");
        Check.type(room, "1 2 3");
        int[] due = {4, 2, 1, 2, 10, 1, 3, 2, 10, 1};
        for (int what = 0; what < due.length; what++) {
            CHECK.due("many(" + what + ")", room.many(what), due[what]);
        }
        refused("many()", room, ARGUMENT, room::many, LEAST, -1, 10, 11, GREATEST);
    }

    private static void promise18ManyCountsOn() {
        ShellsmithRoom room = new ShellsmithRoom();
        int lines = 0;
        for (int k = 0; k < 40; k++) {
            for (String text : new String[] {"GO UP BEHIND", "GO 5"}) {
                Check.write(room, text);
                room.run();
                lines++;
            }
        }
        CHECK.due("LINES run ever", room.many(8), lines);
        CHECK.due("JOBS over ever", room.many(9), lines / 2);
        CHECK.due("KEPT LINES", room.many(4), 12);
    }

    private static void promise19MeanNumber() {
        CHECK.due("of a new object", new ShellsmithRoom().meanNumber(), 0.0);
        CHECK.due("without FILES", Check.after("MAKE 1").meanNumber(), 0.0);
        CHECK.due("of FILES without NUMBERS", Check.after("WRITE 1", "WRITE 2").meanNumber(), 0.0);
        CHECK.due("of the NUMBER 0", Check.after("WRITE 1 #0").meanNumber(), 0.0);
        CHECK.due("not cut", Check.after("WRITE 1 #1 #2", "WRITE 2 #2").meanNumber(), 5.0 / 3.0);
        CHECK.due("of halves", Check.after("WRITE 1 #0", "WRITE 2 #1").meanNumber(), 0.5);
        CHECK.due("not of means", Check.after("WRITE 1 #4", "WRITE 2 #0 #0 #0").meanNumber(), 1.0);
        CHECK.due("an empty FILE counts not", Check.after("WRITE 1 #4", "WRITE 2").meanNumber(), 4.0);
        CHECK.due("in all DIRECTORIES", Check.after("MAKE 1", "GO 1", "WRITE 2 #3", "WRITE UP 2 #4").meanNumber(), 3.5);
        CHECK.due("of what was TAKEN nothing", Check.after("WRITE 1 #4", "WRITE 2 #9", "TAKE 2").meanNumber(), 4.0);
        CHECK.due("of nothing more", Check.after("WRITE 1 #4", "TAKE 1").meanNumber(), 0.0);
        CHECK.due("as it is written last", Check.after("WRITE 1 #4 #5 #6", "WRITE 1 #7").meanNumber(), 7.0);
        CHECK.due("of the greatest", Check.after("WRITE 1 #59 #40", "SHOW 1 PIPE SUM PIPE WRITE 1").meanNumber(), 99.0);
    }

    private static void dryDue(String text, int[] due, String... lines) {
        dryHere(Check.after(lines), text, due);
    }

    private static void dryHere(ShellsmithRoom room, String text, int... due) {
        Check.type(room, text);
        long before = room.digest();
        for (int what = 0; what < due.length; what++) {
            CHECK.due(text + ": dry(" + what + ")", room.dry(what), due[what]);
        }
        CHECK.due(text + ": nothing is changed", room.digest(), before);
    }

    private static void promise20Dry() {
        ShellsmithRoom room = typed("GO UP");
        refused("dry()", room, ARGUMENT, room::dry, LEAST, -1, 7, GREATEST);
        room.erase(16);
        refused("dry() of an empty LINE", room, ARGUMENT, room::dry, -1, 7);
        dryDue("GO UP", new int[] {1, 0, 0, 0, 0, 0, 0});
        dryDue("GO 5", new int[] {0, 0, 0, 0, 0, 0, 0});
        dryDue("MAKE 1 AND GO 1 AND GO 5", new int[] {0, 1, 0, 0, 1, 0, 0});
    }

    private static void promise20DryWithFault() {
        String[] lines = {"MAKE 1", "MAKE 1 2", "WRITE 3 #5", "GO 1 2", "SHOW UP UP 3"};
        int[] fault = {-1, 0, 0, 0, 2, 0, 0};
        dryDue("", fault, lines);
        dryDue("SHOW UP #1", fault, lines);
        dryDue("MAKE 4 AND GO UP AND", fault, lines);
        dryDue("GO UP BEHIND 1", fault, lines);
    }

    private static void promise20DryOfNodes() {
        dryDue("MAKE 1 AND WRITE 2 AND MAKE 1 3", new int[] {1, 3, 0, 0, 0, 0, 0});
        dryDue("TAKE STAR AND TAKE 3", new int[] {1, 0, 3, 0, 0, 0, 0}, "WRITE 1", "WRITE 2 #1", "MAKE 3");
        dryDue("MAKE 1 AND TAKE 1", new int[] {1, 0, 0, 0, 0, 0, 0});
        dryDue("TAKE 1 AND WRITE 2 #1", new int[] {1, 0, 0, 0, 0, 0, 0}, "WRITE 1 #1");
        dryDue("TAKE 1 AND WRITE 2 #2", new int[] {1, 0, 0, 1, 0, 0, 0}, "WRITE 1 #1");
        dryDue("TAKE 1 AND MAKE 1", new int[] {1, 0, 0, 0, 0, 0, 0}, "WRITE 1 #1");
        dryDue("TAKE 1 AND WRITE 1 #1", new int[] {1, 0, 0, 0, 0, 0, 0}, "MAKE 1");
        dryDue("TAKE 1 AND TAKE 2 AND MAKE 3", new int[] {1, 0, 1, 0, 0, 0, 0}, "WRITE 1", "WRITE 2");
        dryDue("WRITE 1 #2 #1 AND WRITE 2 #3 #0", new int[] {1, 0, 0, 2, 0, 0, 0}, "WRITE 1 #1 #2", "WRITE 2 #3");
        dryDue("WRITE 1 #1 #2 AND WRITE 2", new int[] {1, 0, 0, 1, 0, 0, 0}, "WRITE 1 #1 #2", "WRITE 2 #3");
        dryDue("WRITE 1 #9 AND TAKE 1", new int[] {1, 0, 1, 0, 0, 0, 0}, "WRITE 1 #1");
        dryDue("WRITE 1 #9 AND WRITE 1 #1", new int[] {1, 0, 0, 0, 0, 0, 0}, "WRITE 1 #1");
        dryDue("WRITE 1 #1 #2 #3 #4 #5 #6 #7 #9", new int[] {1, 0, 0, 1, 0, 0, 0}, "WRITE 1 #1 #2 #3 #4 #5 #6 #7 #8");
    }

    private static void promise20DryOfTheLastNodes() {
        ShellsmithRoom room = Check.after("MAKE 0 AND MAKE 1");
        for (int name = 0; name < 10; name++) {
            Check.run(room, "MAKE 0 " + name + " AND MAKE 1 " + name);
        }
        Check.run(room, "WRITE 8 #1 #2 #3 #4 #5 #6 #7 #8");
        dryHere(room, "SHOW 8", 1, 0, 0, 0, 0, 8, 36);
        dryHere(room, "WRITE 8 #1 #2 #3 #4 #5 #6 #7", 1, 0, 0, 1, 0, 0, 0);
        dryHere(room, "MAKE 9 AND GO 9", 0, 0, 0, 0, 0, 0, 0);
        Check.run(room, "TAKE 0 0");
        dryHere(room, "MAKE 9 AND GO 9", 1, 1, 0, 0, 3, 0, 0);
    }

    private static void promise20DryOfOutputs() {
        dryDue("SHOW STAR", new int[] {1, 0, 0, 0, 0, 16, 944}, "WRITE 1 #59 #59 #59 #59 #59 #59 #59 #59",
            "WRITE 2 #59 #59 #59 #59 #59 #59 #59 #59", "WRITE 3 #1");
        dryDue("SHOW 1", new int[] {1, 0, 0, 0, 0, 3, 159}, "WRITE 1 #59 #50 #50");
        dryDue("SHOW 1 PIPE SUM", new int[] {1, 0, 0, 0, 0, 1, 59}, "WRITE 1 #59 #50 #50");
        dryDue("SHOW 1 AND GO 5", new int[] {0, 0, 0, 0, 0, 0, 0}, "WRITE 1 #9", "SHOW 1");
        dryDue("SHOW 1 BEHIND", new int[] {1, 0, 0, 0, 0, 1, 9}, "WRITE 1 #9");
    }

    private static void promise20DryOfJobs() {
        String[] three = {"WAIT #9 BEHIND", "WAIT #9 BEHIND", "WAIT #1 AND MAKE 1 BEHIND"};
        dryDue("MAKE 2 AND GO 2 BEHIND", new int[] {1, 1, 0, 0, 1, 0, 0}, three);
        dryDue("GO 1 BEHIND", new int[] {0, 0, 0, 0, 0, 0, 0}, three);
        // The STEP that a run lets a JOB take would bring the DIRECTORY; a dry run lets none.
        dryDue("GO 1", new int[] {0, 0, 0, 0, 0, 0, 0}, "MAKE 1 BEHIND");
        CHECK.due("run, it is RIGHT", typed("GO 1", "MAKE 1 BEHIND").run(), 1);
        dryDue("TAKE 1", new int[] {0, 0, 0, 0, 0, 0, 0}, "MAKE 1", "GO 1", "WAIT #9 BEHIND", "GO UP");
        dryDue("GO 1 AND TAKE UP 1 BEHIND", new int[] {0, 0, 0, 0, 1, 0, 0}, "MAKE 1");
    }

    private static void promise21DryWith() {
        ShellsmithRoom room = new ShellsmithRoom();
        refused("dryWith(.., 1) of an empty LINE", room, INDEX, place -> room.dryWith(place, 1), -1, 0, 1);
        Check.type(room, "GO 5");
        refused("dryWith(.., 1)", room, INDEX, place -> room.dryWith(place, 1), LEAST, -1, 2, 15, 16, GREATEST);
        refused("dryWith(.., 12)", room, INDEX, place -> room.dryWith(place, 12), LEAST, -1, 2, GREATEST);
        refused("dryWith(1, ..)", room, ARGUMENT, token -> room.dryWith(1, token), NO_TOKENS);
        refused("dryWith(0, ..)", room, ARGUMENT, token -> room.dryWith(0, token), NO_TOKENS);
        CHECK.due("it would be RIGHT", room.dryWith(1, 10), 1);
        CHECK.due("it would FAIL", room.dryWith(1, 6), 0);
        CHECK.due("it would have a FAULT", room.dryWith(1, 11), -1);
        CHECK.due("in the first place", room.dryWith(0, 20), 1);
        CHECK.due("with the TOKEN that is there", room.dryWith(1, 5), 0);
        CHECK.due("the LINE stays", room.written(1), 5);
        Check.type(room, SIXTEEN);
        CHECK.due("in the last place of 16", room.dryWith(15, 33), 1);
        CHECK.due("in the last place of 16", room.dryWith(15, 31), -1);
        refused("dryWith(.., 1) of 16", room, INDEX, place -> room.dryWith(place, 1), -1, 16);
        Check.type(room, "GO UP #1");
        CHECK.due("a FAULT that is mended", room.dryWith(2, 10), 1);
        CHECK.due("a FAULT that stays", room.dryWith(1, 5), -1);
    }

    private static void promise22OverIn() {
        ShellsmithRoom room = new ShellsmithRoom();
        refused("overIn()", room, ARGUMENT, room::overIn, LEAST, -1, 0, 61, 62, GREATEST);
        CHECK.due("overIn(1) without JOBS", room.overIn(1), 0);
        CHECK.due("overIn(60) without JOBS", room.overIn(60), 0);
        Check.run(room, "WAIT #9 AND WAIT #9 AND WAIT #9 AND WAIT #9 AND WAIT #9 BEHIND");
        CHECK.due("overIn(44)", room.overIn(44), 0);
        CHECK.due("overIn(45)", room.overIn(45), 1);
        Check.run(room, "GO UP BEHIND");
        CHECK.due("overIn(1)", room.overIn(1), 1);
        CHECK.due("overIn(43)", room.overIn(43), 1);
        CHECK.due("overIn(44), one STEP later", room.overIn(44), 2);
        room.signal(0, 0);
        CHECK.due("overIn(60) with one HELD", room.overIn(60), 1);
        room.signal(1, 0);
        CHECK.due("overIn(60) with all HELD", room.overIn(60), 0);
        CHECK.due("no JOB has gone", room.many(3), 2);
        CHECK.due("no STEP was taken", room.ofJob(0, 1), 8);
        ShellsmithRoom others = Check.after("WAIT #1 AND MAKE 1 BEHIND", "WAIT #2 AND GO 1 AND WAIT #9 BEHIND");
        CHECK.due("what one JOB would do counts for another", others.overIn(3), 1);
        CHECK.due("it would go on", others.overIn(12), 2);
        CHECK.due("nothing has come to be", others.many(0), 1);
        ShellsmithRoom fails = Check.after("WAIT #2 AND GO 1 AND WAIT #9 BEHIND");
        CHECK.due("without it, the other is over soon", fails.overIn(3), 1);
        ShellsmithRoom working = Check.after("MAKE 1", "GO 1", "TAKE UP 1 AND WAIT #9 BEHIND");
        CHECK.due("the shell stays where it is", working.overIn(1), 1);
    }

    private static void promise23Far() {
        ShellsmithRoom room = Check.after("MAKE 1", "MAKE 1 2", "WRITE 1 2 3", "MAKE 4", "WRITE 5");
        refused("far()", room, INDEX, room::far, LEAST, -1, 24, GREATEST);
        farDue(room, "from 0", 0, 1, 2, 3, 1, 1, -1);
        Check.run(room, "GO 1");
        farDue(room, "from 1", 1, 0, 1, 2, 2, 2, -1);
        Check.run(room, "GO 2");
        farDue(room, "from 2", 2, 1, 0, 1, 3, 3, -1);
        Check.run(room, "GO UP UP 4");
        farDue(room, "from 4", 1, 2, 3, 4, 0, 2, -1);
        Check.run(room, "TAKE UP 5");
        farDue(room, "from 4", 1, 2, 3, 4, 0, -1, -1);
        CHECK.due("far(23)", room.far(23), -1);
    }

    private static void farDue(ShellsmithRoom room, String from, int... due) {
        for (int node = 0; node < due.length; node++) {
            CHECK.due("far(" + node + ") " + from, room.far(node), due[node]);
        }
    }

    private static BigInteger times31(BigInteger d, long v) {
        return d.multiply(BigInteger.valueOf(31)).add(BigInteger.valueOf(v));
    }

    /** Of a new object each v is known; DryTest holds digest() of others against their answers. */
    private static void promise24Digest() {
        BigInteger d = BigInteger.valueOf(5752);
        for (int what = 0; what < 10; what++) {
            d = times31(d, what == 0 ? 1 : 0);
        }
        for (int node = 0; node < 24; node++) {
            int none = node == 0 ? 0 : -1;
            for (long v : new long[] {node == 0 ? 1 : 0, -1, -1, 0, none}) {
                d = times31(d, v);
            }
        }
        for (long v : new long[] {3, 0, 0, -1, 0, 0, 0, 0, 0, 0}) {
            d = times31(d, v);
        }
        for (int token = 0; token < 84; token++) {
            d = times31(d, -1);
        }
        d = times31(d, 0);
        CHECK.due("it wraps around", d.bitLength() > 64 ? 1 : 0, 1);
        CHECK.due("digest() of a new object", new ShellsmithRoom().digest(), d.longValue());
        ShellsmithRoom room = typed("GO 5", "MAKE 1 BEHIND", "WRITE 2 #3", "SHOW 2");
        CHECK.due("digest() twice", room.digest(), room.digest());
    }
}
