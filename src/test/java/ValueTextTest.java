/** Promises 5 and 6: length and at, the text of the value that the last run gave. */
public final class ValueTextTest {
    public static void main(String[] args) {
        texts();
        noneGiven();
        keptMeanwhile();
        atMost200();
        exactly200();
        sharedValues();
        deepValues();
        Session.end();
    }

    private static void texts() {
        Session s = new Session();
        s.declare("B:A{Af;}", 2).declare("C:B{Ag;Ah;}", 3).declare("D:B{}", 4);
        s.run("*A()", 1).gave("A");
        s.run("*B(*A())", 1).gave("B(A)");
        s.run("*C(*A(),*B(*A()),*D(*A()))", 1).gave("C(A,B(A),D(A))");
        s.run("*B(*B(*B(*C(*A(),*B(*A()),*A()))))", 1).gave("B(B(B(C(A,B(A),A))))");
        s.declare("H:A{Aa;Ab;Ac;Ad;Ae;Af;}", 5);
        s.run("*H(*A(),*D(*A()),*A(),*A(),*H(*A(),*A(),*A(),*A(),*A(),*A()),*A())", 1);
        s.gave("H(A,D(A),A,A,H(A,A,A,A,A,A),A)");
        // no types are in it
        s.declare("E[X:A]:A{Xf;}", 6).run("*E[E[A]](*E[A](*A()))", 1).gave("E(E(A))");
        // it is the value's class, not that of the type
        s.run("(A)*B(*A())", 1).gave("B(A)");
    }

    private static void noneGiven() {
        Session s = new Session();
        s.declare("B:A{Am()=t.m();}", 2);
        s.run("*B()", 1).gave("B").run("(B)*A()", 2).gave("");
        s.run("*B()", 1).gave("B").run("*B().m()", 3, 3).gave("");
        s.run("*B()", 1).gave("B").run("*B().m()", 40, 4).gave("");
        s.run("*B()", 1).gave("B").run("*B(", -4).gave("");
        s.run("*B()", 1).gave("B").run("*H()", -8000).gave("");
        s.run("*B()", 1).gave("B").run("", -1).gave("");
    }

    private static void keptMeanwhile() {
        Session s = new Session();
        s.declare("B:A{Af;}", 2).run("*B(*A())", 1);
        s.declare("C:B{}", 3).gave("B(A)").declare("C:B{}", -1000).gave("B(A)").declare("x", -1).gave("B(A)");
        s.say("*A()").gave("B(A)");
        Session.due("run(41)", s.x.run(41), -100000);
        s.gave("B(A)").run("", 1).gave("A");
        for (int i : new int[] {Integer.MIN_VALUE, -1, 1, 200, Integer.MAX_VALUE}) {
            Session.due("at(" + i + ")", s.x.at(i), -1);
        }
    }

    private static void atMost200() {
        Session s = new Session();
        s.declare("B:A{Af;Ag;Bd()=*B(t,t);}", 2);
        StringBuilder want = new StringBuilder("B(A,A)");
        s.run("*B(*A(),*A())", 1).gave(want.toString());
        String expression = "*B(*A(),*A())";
        for (int k = 1; k < 9; k++) {
            expression += ".d()";
            want = new StringBuilder("B(" + want + "," + want + ")");
            s.run(expression, 1).gave(want.substring(0, Math.min(200, want.length())));
        }
    }

    /** Texts of up to 200 characters are whole, those of 201 and more are not. */
    private static void exactly200() {
        Session s = new Session();
        s.declare("B:A{Af;}", 2).declare("C:A{Ax;Cw()=*C(*B(*B(*B(*B(*B(t.x))))));}", 3).declare("D:A{Af;Ag;}", 4);
        String inner = "B(".repeat(60) + "A" + ")".repeat(60);
        String expression = "*C(*A())" + ".w()".repeat(12) + ".x";
        s.run(expression, 1).gave(inner);
        s.declare("E:A{Ax;Ay;Az;Aw;}", 5);
        // 181 characters inside, and more around them
        String[] around = {"*D(@,*B(*B(*B(*B(*A())))))", "*D(@,*B(*B(*B(*D(*A(),*A())))))", "*E(@,*B(*B(*A())),*A(),*A())",
            "*D(@,*D(*B(*B(*A())),*B(*B(*A()))))", "*D(*A(),@)", "*D(*B(*B(*B(*B(*B(*B(*A())))))),@)"};
        for (String text : around) {
            String want = text.replace("*", "").replace("()", "").replace("@", inner);
            s.run(text.replace("@", expression), 1).gave(want.substring(0, Math.min(200, want.length())));
        }
        lengths(s, inner, expression);
    }

    /** With B's and D's around a text of 181 characters: 198, 200, 201 and 203 are among the lengths. */
    private static void lengths(Session s, String inner, String expression) {
        for (int more = 0; more <= 4; more++) {
            String text = "*B(".repeat(more) + expression + ")".repeat(more);
            String want = "B(".repeat(more) + inner + ")".repeat(more);
            s.run(text, 1).gave(want);
            text = "*D(" + text + ",*B(*B(*A())))";
            want = "D(" + want + ",B(B(A)))";
            s.run(text, 1).gave(want.substring(0, Math.min(200, want.length())));
            text = "*D(" + text + ",*A())";
            want = "D(" + want + ",A)";
            s.run(text, 1).gave(want.substring(0, Math.min(200, want.length())));
        }
    }

    /** A text whose length would be two to the power of 32. */
    private static void sharedValues() {
        Session s = new Session();
        s.declare("B:A{Af;Ag;Bd()=*B(t,t);}", 2);
        String want = "B(A,A)";
        for (int k = 0; k < 31; k++) {
            want = "B(" + want + "," + want + ")";
            want = want.substring(0, Math.min(200, want.length()));
        }
        s.run("*B(*A(),*A())" + ".d()".repeat(31), 40, 1).gave(want).left(9);
    }

    /** Deeper than its first 200 characters can show. */
    private static void deepValues() {
        Session s = new Session();
        s.declare("B:A{Af;}", 2).declare("C:A{Ax;Cw()=*C(*B(*B(*B(*B(*B(t.x))))));}", 3);
        s.run("*C(*A())" + ".w()".repeat(25), 40, 1).gave(("C(" + "B(".repeat(125)).substring(0, 200)).left(15);
        s.run("*C(*A())" + ".w()".repeat(20) + ".x", 40, 1).gave("B(".repeat(100));
        s.run("*C(*A())" + ".w()".repeat(19) + ".x", 40, 1).gave("B(".repeat(95) + "A" + ")".repeat(9));
    }
}
