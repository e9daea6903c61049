import java.math.BigInteger;
import java.util.ArrayList;
import java.util.Arrays;
import java.util.List;

/** Promises 20, 21, 23 and 24: what a LINE would do, how far a NODE is, and the checksum. */
public final class DryTest {
    private static final Check CHECK = new Check("DryTest");
    private static final Class<?> ARGUMENT = IllegalArgumentException.class;
    private static final Class<?> INDEX = IndexOutOfBoundsException.class;

    public static void main(String[] args) {
        faults();
        dryRuns();
        otherNumbers();
        dryBehind();
        withOthers();
        far();
        digests();
        CHECK.end();
    }

    private static void dryDue(ShellsmithRoom room, String text, int... want) {
        Check.type(room, text);
        long before = room.digest();
        for (int what = 0; what < want.length; what++) {
            CHECK.due(text + ": dry(" + what + ")", room.dry(what), want[what]);
        }
        CHECK.due(text + ": the digest behind dry()", room.digest(), before);
    }

    private static void faults() {
        ShellsmithRoom room = Check.after("MAKE 1", "GO 1");
        dryDue(room, "", -1, 0, 0, 0, 1, 0, 0);
        dryDue(room, "GO UP AND GO", -1, 0, 0, 0, 1, 0, 0);
        Check.run(room, "SHOW UP");
        CHECK.due("the last OUTPUT", Check.output(room), "1");
        dryDue(room, "SHOW", -1, 0, 0, 0, 1, 0, 0);
        CHECK.dueThrow("dry(7)", room, ARGUMENT, () -> room.dry(7));
        CHECK.dueThrow("dry(-1)", room, ARGUMENT, () -> room.dry(-1));
    }

    private static void dryRuns() {
        ShellsmithRoom room = Check.after("MAKE 1", "WRITE 1 1 #50 #40", "WRITE 1 2 #30");
        dryDue(room, "MAKE 2 AND MAKE 3 AND GO 3", 1, 2, 0, 0, 5, 0, 0);
        dryDue(room, "GO 1 AND TAKE STAR", 1, 0, 2, 0, 1, 0, 0);
        dryDue(room, "SHOW 1 STAR", 1, 0, 0, 0, 0, 3, 120);
        dryDue(room, "SHOW 1 STAR PIPE SUM", 1, 0, 0, 0, 0, 1, 20);
        dryDue(room, "MAKE 5 AND SHOW 9", 0, 1, 0, 0, 0, 0, 0);
        dryDue(room, "MAKE 5 AND GO 5 AND TAKE UP 5", 0, 1, 0, 0, 4, 0, 0);
        dryDue(room, "TAKE 1 STAR AND TAKE 1", 1, 0, 3, 0, 0, 0, 0);
        dryDue(room, "TAKE 1 1 AND MAKE 1", 0, 0, 1, 0, 0, 0, 0);
        CHECK.due("nothing was done", room.many(0), 4);
        CHECK.due("nothing was KEPT", room.many(4), 3);
    }

    private static void otherNumbers() {
        ShellsmithRoom room = Check.after("WRITE 1 #1 #2", "WRITE 2 #3");
        dryDue(room, "WRITE 1 #1 #2", 1, 0, 0, 0);
        dryDue(room, "WRITE 1 #2 #1", 1, 0, 0, 1);
        dryDue(room, "WRITE 1 #1", 1, 0, 0, 1);
        dryDue(room, "WRITE 1 #2 #2", 1, 0, 0, 1);
        dryDue(room, "WRITE 1 #1 #1", 1, 0, 0, 1);
        dryDue(room, "SHOW 1 PIPE WRITE 2 PIPE WRITE 1", 1, 0, 0, 2);
        dryDue(room, "WRITE 3 #1", 1, 1, 0, 0);
        dryDue(room, "TAKE 1 AND WRITE 7 #9", 1, 0, 0, 1);
        dryDue(room, "TAKE 1 AND WRITE 7 #1 #2", 1, 0, 0, 0);
        dryDue(room, "TAKE 1 AND MAKE 7", 1, 0, 0, 0);
        dryDue(room, "WRITE 2 AND TAKE 2", 1, 0, 1, 0);
    }

    private static void dryBehind() {
        ShellsmithRoom room = Check.after("WAIT #9 BEHIND", "WAIT #8 BEHIND", "MAKE 3 BEHIND");
        dryDue(room, "MAKE 3 BEHIND", 1, 1, 0, 0, 0, 0, 0);
        dryDue(room, "MAKE 3 AND GO 3 AND SHOW UP BEHIND", 1, 1, 0, 0, 1, 1, 3);
        dryDue(room, "GO 9 BEHIND", 0, 0, 0, 0, 0, 0, 0);
        CHECK.due("no JOB took a STEP", room.ofJob(2, 1), 1);
        CHECK.due("with the STEPS of a run a number is free", Check.run(room, "MAKE 4 BEHIND"), 1);
    }

    private static void withOthers() {
        ShellsmithRoom room = Check.after("MAKE 1");
        Check.type(room, "GO 5");
        CHECK.due("dryWith(1, 1)", room.dryWith(1, 1), 1);
        CHECK.due("dryWith(1, 2)", room.dryWith(1, 2), 0);
        CHECK.due("dryWith(1, 41)", room.dryWith(1, 41), -1);
        CHECK.due("dryWith(0, 20)", room.dryWith(0, 20), 1);
        CHECK.due("the LINE stays", room.written(0), 24);
        CHECK.due("the LINE stays", room.written(1), 5);
        CHECK.dueThrow("dryWith(2, 1)", room, INDEX, () -> room.dryWith(2, 1));
        CHECK.dueThrow("dryWith(-1, 12)", room, INDEX, () -> room.dryWith(-1, 12));
        CHECK.dueThrow("dryWith(1, 12)", room, ARGUMENT, () -> room.dryWith(1, 12));
        CHECK.dueThrow("dryWith(1, -1)", room, ARGUMENT, () -> room.dryWith(1, -1));
    }

    private static void far() {
        ShellsmithRoom room = Check.after("MAKE 1", "MAKE 1 2", "WRITE 1 2 3", "MAKE 4", "WRITE 4 5");
        int[] fromTop = {0, 1, 2, 3, 1, 2, -1};
        int[] fromTwo = {2, 1, 0, 1, 3, 4, -1};
        for (int node = 0; node < fromTop.length; node++) {
            CHECK.due("far(" + node + ") from 0", room.far(node), fromTop[node]);
        }
        Check.run(room, "GO 1 2");
        for (int node = 0; node < fromTwo.length; node++) {
            CHECK.due("far(" + node + ") from 2", room.far(node), fromTwo[node]);
        }
        CHECK.due("far(23)", room.far(23), -1);
        CHECK.dueThrow("far(24)", room, INDEX, () -> room.far(24));
        CHECK.dueThrow("far(-1)", room, INDEX, () -> room.far(-1));
        ShellsmithRoom deep = new ShellsmithRoom();
        for (int k = 1; k < 24; k++) {
            Check.run(deep, "MAKE 0 AND GO 0");
        }
        CHECK.due("the longest way up", deep.far(0), 23);
        Check.run(deep, "GO UP UP UP UP UP UP UP UP UP UP UP UP UP UP UP");
        Check.run(deep, "GO UP UP UP UP UP UP UP UP UP UP UP UP UP UP UP");
        CHECK.due("the longest way down", deep.far(23), 23);
    }

    private static void digests() {
        String[] lines = {"MAKE 1", "WRITE 1 2 #7 #8", "GO 1", "SHOW 2", "WAIT #4 AND GO UP BEHIND", "GO 9", "GO UP",
            "SHOW 1 STAR", "WAIT #7 BEHIND", "GO UP", "GO UP", "GO UP", "GO UP"};
        for (int many = 0; many < lines.length; many++) {
            String[] ran = Arrays.copyOf(lines, many);
            long ahead = digestOf(typedBehind(lines[many], ran));
            CHECK.due("digest() ahead of " + lines[many], typedBehind(lines[many], ran).digest(), ahead);
            ran = Arrays.copyOf(lines, many + 1);
            CHECK.due("digest() behind " + lines[many], Check.after(ran).digest(), digestOf(Check.after(ran)));
        }
    }

    private static ShellsmithRoom typedBehind(String text, String... lines) {
        ShellsmithRoom room = Check.after(lines);
        Check.type(room, text);
        return room;
    }

    private static long digestOf(ShellsmithRoom room) {
        List<Integer> all = new ArrayList<>();
        for (int what = 0; what < 10; what++) {
            all.add(room.many(what));
        }
        addNodes(all, room);
        addJobs(all, room);
        for (int k = 0; k < all.get(6); k++) {
            all.add(room.written(k));
        }
        for (int what = 0; what < 3; what++) {
            all.add(room.line(what));
        }
        for (int what = 0; what < 7; what++) {
            all.add(room.dry(what));
        }
        for (int k = 0; k < all.get(7); k++) {
            all.add(room.output(k));
        }
        for (int kept = 0; kept < all.get(4); kept++) {
            addKept(all, room, kept);
        }
        for (int token : Check.allTokens()) {
            all.add(room.rule(token));
        }
        all.add(room.overIn(5));
        return wrapped(all);
    }

    private static void addNodes(List<Integer> all, ShellsmithRoom room) {
        for (int node = 0; node < 24; node++) {
            int kind = room.ofNode(node, 0);
            int size = room.ofNode(node, 3);
            all.addAll(List.of(kind, room.ofNode(node, 1), room.ofNode(node, 2), size, room.far(node)));
            for (int k = 0; kind == 2 && k < size; k++) {
                all.add(room.number(node, k));
            }
        }
    }

    private static void addJobs(List<Integer> all, ShellsmithRoom room) {
        for (int job = 0; job < 3; job++) {
            for (int what = 0; what < 4; what++) {
                try {
                    all.add(room.ofJob(job, what));
                } catch (IndexOutOfBoundsException notThere) {
                    break;
                }
            }
        }
    }

    private static void addKept(List<Integer> all, ShellsmithRoom room, int kept) {
        try {
            for (int k = 0; k < 16; k++) {
                all.add(room.kept(kept, k));
            }
        } catch (IndexOutOfBoundsException end) {
            return;
        }
    }

    /** The sum without a bound, cut to 64 bits at the end: no wrap-around of Java's own is used. */
    private static long wrapped(List<Integer> all) {
        BigInteger d = BigInteger.valueOf(5752);
        for (int v : all) {
            d = d.multiply(BigInteger.valueOf(31)).add(BigInteger.valueOf(v));
        }
        CHECK.due("the sum is beyond 64 bits", d.bitLength() > 64 ? 1 : 0, 1);
        return d.longValue();
    }
}
