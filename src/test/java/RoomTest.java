import com.sun.management.ThreadMXBean;
import java.lang.management.ManagementFactory;

/** 512 of the dearest calls make so little that many runs fit into one room. */
public final class RoomTest {
    private static final long MOST_BYTES = 400_000;
    private static final int CALLS = 512;
    private static int calls;

    public static void main(String[] args) {
        String manyMethods = "B:A{" + "Aa()=t;".repeat(19) + "}";
        String manyFields = "B:A{" + "Aa;".repeat(44) + "}";
        for (int round = 0; round < 2; round++) {
            measure("declarations with many methods", new String[] {manyMethods}, "", round);
            measure("declarations with many fields", new String[] {manyFields}, "", round);
            measure("runs that make many objects", new String[] {
                "B:A{Af;Ag;Bm()=*B(*B(t,t),*B(t,t)).n();Bn()=*B(*B(t,t),*B(t,t)).m();}"}, "*B(*A(),*A()).m()", round);
            measure("runs with large types", new String[] {"B[X:A,Y:A,Z:A]:A{}", "C[X:A]:A{C[B[X,X,X]]w()=t.w();}"},
                "*C[A]()" + ".w()".repeat(33), round);
            measure("empty texts", new String[] {}, "", round);
        }
        Session.end();
    }

    private static boolean isLeft() {
        calls++;
        return calls <= CALLS;
    }

    private static void enter(BoundedTypes x, String text) {
        for (int i = 0; i < text.length() && isLeft(); i++) {
            x.type(text.charAt(i), 1);
        }
    }

    /** The first round loads classes, so only the second one counts. */
    private static void measure(String what, String[] declared, String expression, int round) {
        ThreadMXBean threads = (ThreadMXBean) ManagementFactory.getThreadMXBean();
        long id = Thread.currentThread().getId();
        long before = threads.getThreadAllocatedBytes(id);
        BoundedTypes x = new BoundedTypes();
        calls = 0;
        for (String text : declared) {
            for (int i = 0; i < text.length(); i += 4) {
                String piece = text.substring(i, Math.min(i + 4, text.length()));
                x.type(Session.word(piece), piece.length());
                calls++;
            }
            x.declare();
            calls++;
        }
        for (int k = 0; k < CALLS && isLeft(); k++) {
            if (expression.isEmpty()) {
                for (String text : declared) {
                    enter(x, text);
                }
                x.declare();
            } else {
                enter(x, expression);
                x.run(40);
            }
        }
        long made = threads.getThreadAllocatedBytes(id) - before;
        if (round > 0) {
            Session.due(what + " made " + made + " bytes, too many", made < MOST_BYTES, true);
        }
    }
}
