/** The example of README.md, statement by statement: it answers what its comments say. */
public final class ReadmeTest {
    private static final Check CHECK = new Check("ReadmeTest");

    public static void main(String[] args) {
        ShellsmithRoom room = new ShellsmithRoom();
        room.token(21);
        room.token(3);
        room.token(45);
        room.token(42);
        int right = room.run();
        int first = room.number(1, 0);
        CHECK.due("right", right, 1);
        CHECK.due("first", first, 5);

        room.token(22);
        room.token(3);
        room.token(30);
        room.token(26);
        int would = room.dry(6);
        room.run();
        int sum = room.output(0);
        CHECK.due("would", would, 7);
        CHECK.due("sum", sum, 7);
        CHECK.end();
    }
}
