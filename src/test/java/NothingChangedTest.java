import java.util.LinkedHashMap;
import java.util.Map;
import java.util.function.ToIntFunction;

/**
 * "A method that throws an exception changes nothing", and those that only ask change nothing either: the same
 * LINES are run with and without such a call behind every other call, and have to go the same way.
 */
public final class NothingChangedTest {
    private static final Check CHECK = new Check("NothingChangedTest");

    private static final String[] LINES = {"WRITE 1 #3 #2", "GO 5", "GO UP", "MAKE 1 AND", "SHOW 1",
        "WAIT #9 BEHIND", "SHOW 1 PIPE SORT", "WAIT #2 AND MAKE 3 BEHIND", "SHOW 4", "SHOW 1", "MAKE #1",
        "MAKE 1"};

    private static final Map<String, ToIntFunction<ShellsmithRoom>> REFUSED = new LinkedHashMap<>();
    private static final Map<String, ToIntFunction<ShellsmithRoom>> ASKED = new LinkedHashMap<>();

    public static void main(String[] args) {
        fillRefused();
        fillAsked();
        String due = wayOf(room -> 0);
        for (String name : REFUSED.keySet()) {
            CHECK.due("the way with the refused " + name, wayOf(room -> refuse(name, room)), due);
        }
        for (String name : ASKED.keySet()) {
            CHECK.due("the way with " + name, wayOf(ASKED.get(name)), due);
        }
        CHECK.end();
    }

    private static void fillRefused() {
        REFUSED.put("token", room -> room.token(12));
        REFUSED.put("erase", room -> room.erase(0));
        REFUSED.put("written", room -> room.written(16));
        REFUSED.put("line", room -> room.line(3));
        REFUSED.put("output", room -> room.output(16));
        REFUSED.put("complete", room -> room.complete(84));
        REFUSED.put("kept", room -> room.kept(12, 0));
        REFUSED.put("place of kept", room -> room.kept(0, 16));
        REFUSED.put("recall", room -> room.recall(12));
        REFUSED.put("search", room -> room.search(12, 1));
        REFUSED.put("second of search", room -> room.search(1, 12));
        REFUSED.put("rule", room -> room.rule(12));
        REFUSED.put("ofNode", room -> room.ofNode(24, 0));
        REFUSED.put("what of ofNode", room -> room.ofNode(0, 4));
        REFUSED.put("number", room -> room.number(0, 0));
        REFUSED.put("ofJob", room -> room.ofJob(3, 0));
        REFUSED.put("what of ofJob", room -> room.ofJob(0, 4));
        REFUSED.put("signal", room -> room.signal(2, 2));
        REFUSED.put("signal of signal", room -> room.signal(0, 3));
        REFUSED.put("many", room -> room.many(10));
        REFUSED.put("dry", room -> room.dry(7));
        REFUSED.put("dryWith", room -> room.dryWith(16, 1));
        REFUSED.put("token of dryWith", room -> room.dryWith(0, 12));
        REFUSED.put("overIn", room -> room.overIn(61));
        REFUSED.put("far", room -> room.far(24));
    }

    private static void fillAsked() {
        ASKED.put("run() of an empty LINE", room -> room.many(6) == 0 ? refuseRun(room) : 0);
        ASKED.put("token() at 16", NothingChangedTest::fillAndEmpty);
        ASKED.put("written(0)", room -> room.many(6) > 0 ? room.written(0) : 0);
        ASKED.put("line(0)", room -> room.line(0));
        ASKED.put("output(0)", room -> room.many(7) > 0 ? room.output(0) : 0);
        ASKED.put("complete(0)", room -> room.line(0) == 3 ? room.complete(0) : 0);
        ASKED.put("kept(0, 0)", room -> room.many(4) > 0 ? room.kept(0, 0) : 0);
        ASKED.put("search(22, 1)", room -> room.search(22, 1));
        ASKED.put("rule(5)", room -> room.rule(5));
        ASKED.put("correct() of a RIGHT LINE", room -> room.dry(0) == 1 ? room.correct() : 0);
        ASKED.put("ofNode(1, 3)", room -> room.ofNode(1, 3));
        ASKED.put("number(1, 0)", room -> room.ofNode(1, 0) == 2 ? room.number(1, 0) : 0);
        ASKED.put("ofJob(0, 1)", room -> room.many(3) > 0 ? room.ofJob(0, 1) : 0);
        ASKED.put("signal(0, 1)", room -> room.many(3) > 0 ? room.signal(0, 1) : 0);
        ASKED.put("many(0)", room -> room.many(0));
        ASKED.put("meanNumber()", room -> (int) room.meanNumber());
        ASKED.put("dry(0)", room -> room.dry(0));
        ASKED.put("dry(6)", room -> room.dry(6));
        ASKED.put("dryWith(0, 22)", room -> room.many(6) > 0 ? room.dryWith(0, 22) : 0);
        ASKED.put("overIn(60)", room -> room.overIn(60));
        ASKED.put("far(1)", room -> room.far(1));
        ASKED.put("digest()", room -> (int) room.digest());
    }

    private static int refuse(String name, ShellsmithRoom room) {
        try {
            REFUSED.get(name).applyAsInt(room);
        } catch (IllegalArgumentException | IndexOutOfBoundsException due) {
            return 0;
        }
        CHECK.due(name + " answers", 1, 0);
        return 1;
    }

    private static int refuseRun(ShellsmithRoom room) {
        try {
            return room.run();
        } catch (IllegalStateException due) {
            return 0;
        }
    }

    /** A LINE of one TOKEN is filled, refuses another one, and is erased to what it was. */
    private static int fillAndEmpty(ShellsmithRoom room) {
        int before = room.many(6);
        if (before != 1) {
            return 0;
        }
        for (int k = before; k < 16; k++) {
            room.token(5);
        }
        try {
            room.token(5);
        } catch (IllegalStateException due) {
            return room.erase(16 - before);
        }
        return 0;
    }

    private static String wayOf(ToIntFunction<ShellsmithRoom> other) {
        ShellsmithRoom room = new ShellsmithRoom();
        StringBuilder all = new StringBuilder();
        for (String text : LINES) {
            write(room, text, other);
            all.append(room.run()).append(" ");
            other.applyAsInt(room);
            all.append(room.digest()).append(", ");
        }
        write(room, "GO 5", other);
        all.append(Check.completions(room)).append(", ").append(room.correct());
        return all.append(", ").append(room.run()).append(" ").append(room.digest()).toString();
    }

    private static void write(ShellsmithRoom room, String text, ToIntFunction<ShellsmithRoom> other) {
        for (int token : Check.tokens(text)) {
            room.token(token);
            other.applyAsInt(room);
        }
    }
}
