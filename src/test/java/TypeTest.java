/** Promise 2: type. */
public final class TypeTest {
    public static void main(String[] args) {
        howMany();
        whichBytes();
        whichCharacters();
        atMost140();
        refusedChangesNothing();
        Session.end();
    }

    private static void howMany() {
        BoundedTypes x = new BoundedTypes();
        int word = Session.word("*A()");
        for (int n : new int[] {0, 5, 8, -1, Integer.MIN_VALUE, Integer.MAX_VALUE}) {
            Session.due("type(word, " + n + ")", x.type(word, n), false);
        }
        Session.due("type(word, 4)", x.type(word, 4), true);
        Session.due("run(0)", x.run(0), 1);
    }

    /** Only the lowest bytes count, the highest of them first; those above may be anything. */
    private static void whichBytes() {
        BoundedTypes x = new BoundedTypes();
        Session.due("type of *", x.type('*', 1), true);
        Session.due("type of A", x.type(0xff0000 | 'A', 1), true);
        Session.due("type of ()", x.type(0x801f << 16 | '(' << 8 | ')', 2), true);
        Session.due("type of three spaces", x.type(0x7f202020, 3), true);
        Session.due("run(0)", x.run(0), 1);
        Session.due("at(0)", x.at(0), 'A');
    }

    private static void whichCharacters() {
        BoundedTypes x = new BoundedTypes();
        for (int c = 0; c < 256; c++) {
            boolean fits = c >= 32 && c <= 126;
            Session.due("type(" + c + ", 1)", x.type(c, 1), fits);
            if (fits) {
                x.declare();
            }
            Session.due("first of two is " + c, x.type(c << 8 | ' ', 2), fits);
            Session.due("second of three is " + c, x.type('x' << 16 | c << 8 | ' ', 3), fits);
            Session.due("first of four is " + c, x.type(c << 24 | 0x202020, 4), fits);
            Session.due("last of four is " + c, x.type(0x20202000 | c, 4), fits);
            x.declare();
        }
    }

    private static void atMost140() {
        Session s = new Session();
        s.say(" ".repeat(136));
        Session.due("141st by 4 is not there yet", s.x.type(Session.word("*A()"), 4), true);
        for (int n = 1; n <= 4; n++) {
            Session.due(n + " more than 140", s.x.type(0x20202020, n), false);
        }
        s.run("", 1).gave("A");

        s.say(" ".repeat(137));
        Session.due("four behind 137", s.x.type(Session.word("*A()"), 4), false);
        Session.due("three behind 137", s.x.type(Session.word("*A("), 3), true);
        s.run("", -141);
        s.say("x".repeat(140)).run("", -2);
    }

    private static void refusedChangesNothing() {
        Session s = new Session();
        s.say("*A");
        Session.due("a bad byte", s.x.type('(' << 24 | ')' << 16 | 31 << 8 | ' ', 4), false);
        Session.due("a bad number", s.x.type(Session.word("().f"), 5), false);
        s.run("()", 1).gave("A");
    }
}
