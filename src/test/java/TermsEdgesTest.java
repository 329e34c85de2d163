/** The edges that the document's Terms name: how many of each, how deep, which letters, and where a text is faulty. */
public final class TermsEdgesTest {
    private static final String[] DECLARATIONS = {
        "B:A{}",
        "B[X:A,Y:B[X,Y,Z],Z:A]:A{}",
        "B[X:A]:A{Xf;B[B[X]]g;Ym[Y:A,Z:B[Y]](Xx,Yy,Zz)=y;Xn()=t.f;}",
        "B[X:A]:A{B[X]m(Ax)=(B[X])((B[X])t.m(t.m(x))).n[A,B[A]](*A(),(*B[A]()));B[X]n[Y:A,Z:A](Yy,Zz)=t;}"};
    private static final String[] EXPRESSIONS = {
        "*A()",
        "(A)(A)((*A()))",
        "(B)*B(*A(),(A)*B(*A(),*A()).f).m[A,B](*B(*A(),*A()).f,*A()).g"};

    public static void main(String[] args) {
        spacesCountForNothing();
        placesCountSpaces();
        theEndIsAtTheLength();
        theFirstCharacterThatCannotBe();
        everyCharacterEverywhere();
        letters();
        oneToThreeTypes();
        oneToThreeBounds();
        upToThreeParameters();
        anyNumberOfMembers();
        anyNumberOfSelections();
        anyNumberOfExpressions();
        anyNumberOfCasts();
        aBracketBeforeAClassBeginsACast();
        eightBrackets();
        eightBracketsInAnyPlace();
        theNinthBracketOfEachKind();
        closedBracketsDoNotCount();
        sixFields();
        twelveCalls();
        depthIsLookedAtBehindTheFuel();
        refusedTypeChangesNothing();
        refusedRunChangesNothing();
        Session.end();
    }

    private static void spacesCountForNothing() {
        for (String text : DECLARATIONS) {
            int want = new Session().say(text).x.declare();
            for (int i = 0; i <= text.length(); i++) {
                new Session().declare(text.substring(0, i) + "   " + text.substring(i), want);
            }
        }
        new Session().declare(" B [ X : A , Y : A ] : A { X f ; A m [ Z : A ] ( Z x , A y ) = ( A ) x ; } ", 2);
        new Session().run(" * A ( ) ", 1).gave("A");
        new Session().run(" ( A ) ( ( A ) * A ( ) ) ", 1).gave("A");
        new Session().declare("B:A{B m [ Y : A ] ( ) = * B ( ) . m [ A ] ( ) ; }", 2).run(" * B ( ) . m [ A ] ( ) ", 4, 3);
        new Session().run(" ".repeat(68) + "*A()" + " ".repeat(68), 1).gave("A");
    }

    private static void placesCountSpaces() {
        new Session().run("  x  y", -6).run(" ( S )", -4).run("*  *", -4).run(" \"", -2);
        new Session().declare(" B : A { }  x", -13).declare("  b", -3).declare("B:A{Af  ,", -9);
        // the end is behind the spaces that stand last
        new Session().run(" ", -2).run(" ".repeat(140), -141).run("*A  ", -5).run("*A()  ", 1);
        new Session().declare(" ", -2).declare(" ".repeat(140), -141).declare("B:A{   ", -8).declare("B:A{}  ", 2);
    }

    private static void theEndIsAtTheLength() {
        for (String text : DECLARATIONS) {
            for (int i = 0; i < text.length(); i++) {
                new Session().declare(text.substring(0, i), -1 - i);
            }
        }
        for (String text : new String[] {"", "*", "*A", "*A(", "*A[", "*A[A", "*A[A,", "*A[A]", "*A(*A()", "*A(*A(),", "(", "(A",
            "(A)", "(A[A]", "(*A()", "*A().", "*A().m(", "*A().m(x", "*A().m[", "*A().m[A", "*A().m[A]", "*A().m[A]("}) {
            new Session().run(text, -1 - text.length());
        }
        String full = "*A" + " ".repeat(138);
        new Session().run(full, -141);
        new Session().declare("B:A{" + "Af;".repeat(45) + "A", -141);
    }

    /** Behind whatever may begin a right text, a character that is in none is the first that cannot be. */
    private static void theFirstCharacterThatCannotBe() {
        for (String text : DECLARATIONS) {
            for (int i = 0; i <= text.length(); i++) {
                new Session().declare(text.substring(0, i) + "!" + text.substring(i), -1 - i);
                new Session().declare(text.substring(0, i) + "~ ~", -1 - i);
            }
        }
        for (String text : EXPRESSIONS) {
            for (int i = 0; i <= text.length(); i++) {
                new Session().run(text.substring(0, i) + "!" + text.substring(i), -1 - i);
                new Session().run(text.substring(0, i) + "? ?", -1 - i);
            }
        }
        // what is faulty further on, or wrong before, does not count
        new Session().declare("B:A{;;", -5).run("(x!!", -3).declare("A:H{Hf;Hf;!", -11).run("x.f!", -4);
    }

    /** Each character of some texts is replaced by each that can be typed; the plain model says what is due. */
    private static void everyCharacterEverywhere() {
        for (String text : DECLARATIONS) {
            for (int i = 0; i < text.length(); i++) {
                for (char c = 32; c <= 126; c++) {
                    String other = text.substring(0, i) + c + text.substring(i + 1);
                    new Session().declare(other, modelWith(other).declare());
                }
            }
        }
        for (String text : EXPRESSIONS) {
            for (int i = 0; i < text.length(); i++) {
                for (char c = 32; c <= 126; c++) {
                    String other = text.substring(0, i) + c + text.substring(i + 1);
                    new Session().run(other, modelWith(other).run(20));
                }
            }
        }
    }

    private static PlainModel modelWith(String text) {
        PlainModel model = new PlainModel();
        for (int i = 0; i < text.length(); i++) {
            model.type(text.charAt(i), 1);
        }
        return model;
    }

    /** Classes A to H, variables S to Z, names a to z: the ends are in, their neighbours are not. */
    private static void letters() {
        for (char c : new char[] {'@', 'I', 'R', '`', '{', '0'}) {
            new Session().declare(c + ":A{}", -1).declare("B:" + c + "{}", -3).run("*" + c + "()", -2);
        }
        for (char c : new char[] {'R', '[', 'I', '@'}) {
            new Session().declare("B[" + c + ":A]:A{}", -3).declare("B:A{Am[" + c + ":A]()=t;}", -8);
            new Session().declare("B:A{A[" + c + "]f;}", -7).run("*A().m[" + c + "]()", -8);
        }
        for (char c : new char[] {'`', '{', 'Z', 'A'}) {
            new Session().declare("B:A{A" + c + ";}", -6).declare("B:A{Am(A" + c + ")=t;}", -9);
            new Session().run("*A()." + c, -6);
        }
        new Session().run("`", -1).run("{", -1).run("A", -1).run("S", -1).run("a", -5000).run("z", -5000);
        new Session().declare("H[S:A,Z:A]:A{Sa;Zz;Za(Sa,Zz)=z;Sz(Sz,Za)=z;}", 2).fields(7, 2).method(7, 'a', 7).method(7, 'z', 7);
        // neither a class nor a variable may stand where the other is asked for
        new Session().declare("S:A{}", -1).declare("B:S{}", -3).declare("B[A:A]:A{}", -3).declare("B[X:Z]:A{}", -5);
        new Session().run("*S()", -2).run("(S)*A()", -2);
    }

    private static void oneToThreeTypes() {
        Session s = new Session().declare("B[X:A]:A{}", 2).declare("C[X:A,Y:A]:A{}", 3).declare("D[X:A,Y:A,Z:A]:A{}", 4);
        s.run("*B[]()", -4).run("*B[A]()", 1).run("*C[A,A]()", 1).run("*D[A,A,A]()", 1).run("*D[A,A,A,A]()", -9);
        s.run("(B[])*A()", -4).run("(D[A,A,A,A])*A()", -9);
        s.declare("E:B[]{}", -5).declare("E:D[A,A,A,A]{}", -10).declare("E:A{D[A,A,A,A]f;}", -12);
        s.declare("E[X:D[A,A,A,A]]:A{}", -12);
        s.declare("E:D[A,A,A]{Xm[X:A](Xx)=x;Yn[X:A,Y:A](Xx,Yy)=y;Zo[X:A,Y:A,Z:A](Xx,Yy,Zz)=z;}", 5);
        s.run("*E().m[](*A())", -8).run("*E().m[A](*A())", 1).run("*E().n[A,A](*A(),*A())", 1);
        s.run("*E().o[A,A,A](*A(),*A(),*A())", 1).run("*E().o[A,A,A,A](*A(),*A(),*A())", -13);
        s.run("*E().m[A,](*A())", -10).run("*B[A,]()", -6).run("*B[,A]()", -4);
    }

    private static void oneToThreeBounds() {
        new Session().declare("B[]:A{}", -3).declare("B[X:A]:A{}", 2);
        new Session().declare("B[X:A,Y:A]:A{}", 2).declare("C[X:A,Y:A,Z:A]:A{}", 3);
        new Session().declare("B[X:A,Y:A,Z:A,W:A]:A{}", -14).declare("B[X:A,]:A{}", -7).declare("B[,X:A]:A{}", -3);
        new Session().declare("B:A{Am[]()=t;}", -8).declare("B:A{Am[X:A]()=t;An[X:A,Y:A]()=t;Ao[X:A,Y:A,Z:A]()=t;}", 2);
        new Session().declare("B:A{Am[X:A,Y:A,Z:A,W:A]()=t;}", -19);
        // a variable without a bound is none
        new Session().declare("B[X]:A{}", -4).declare("B:A{Am[X]()=t;}", -9);
    }

    private static void upToThreeParameters() {
        new Session().declare("B:A{Aa()=t;Ab(Ax)=x;Ac(Ax,Ay)=y;Ad(Ax,Ay,Az)=z;}", 2);
        new Session().declare("B:A{Ad(Ax,Ay,Az,Aw)=z;}", -16).declare("B:A{Ad(Ax,Ay,Az,)=z;}", -16);
        new Session().declare("B:A{Ad(,)=t;}", -8).declare("B:A{Ad(Ax,)=t;}", -11);
    }

    private static void anyNumberOfMembers() {
        new Session().declare("B:A{}", 2).fields(1, 0);
        new Session().declare("B:A{Af;}", 2).fields(1, 1);
        StringBuilder methods = new StringBuilder();
        for (char m = 'a'; m <= 's'; m++) {
            methods.append('A').append(m).append("()=t;");
        }
        Session s = new Session().declare("B:A{" + methods + "}", 2).declare("C:B{" + methods + "}", 3);
        s.method(1, 's', 1).method(2, 's', 2).method(2, 'a', 2);
        // however many fields stand there, the text is not faulty
        new Session().declare("B:A{" + "At;".repeat(45) + "}", -3000);
        new Session().declare("B:A{Aa;Ab;Ac;Ad;Ae;Af;" + methods.substring(0, 7 * 16) + "}", 2).fields(1, 6);
    }

    private static void anyNumberOfSelections() {
        Session s = new Session().declare("B:A{Bm()=t;}", 2).declare("C:A{Cf;}", 3);
        s.run("*B()", 40, 1).left(40).run("*B().m()", 40, 1).left(39).run("*B()" + ".m()".repeat(34), 40, 1).left(6);
        s.run("*A()" + ".f".repeat(68), -6000);
        s.declare("D:A{Cm(Cc)=c;Cn(Cc)=c.f;Co(Cc)=c" + ".f".repeat(50) + ";}", 4);
        s.declare("E:A{Cm(Cc)=c" + ".f".repeat(59) + ".g;}", -6000);
    }

    private static void anyNumberOfExpressions() {
        Session s = new Session().declare("B:A{Aa;Ab;Ac;Ad;Ae;Af;}", 2).declare("C:A{Am()=t;An(Ax)=x;Ao(Ax,Ay,Az)=z;}", 3);
        s.run("*A()", 1).run("*A(*A())", -7000).run("*A(x" + ",x".repeat(67) + ")", -7000).run("*A(x,)", -6);
        s.run("*B(" + "*A(),".repeat(5) + "*A())", 1).gave("B(A,A,A,A,A,A)");
        s.run("*B(" + "*A(),".repeat(4) + "*A())", -7000).run("*B(" + "*A(),".repeat(6) + "*A())", -7000);
        s.run("*C().m()", 1).run("*C().n(*A())", 1).run("*C().o(*A(),*A(),*A())", 1);
        s.run("*C().o(*A(),*A(),*A(),*A())", -7000).run("*C().m(x" + ",x".repeat(65) + ")", -7000).run("*C().m(x,)", -10);
    }

    private static void anyNumberOfCasts() {
        new Session().run("(A)*A()", 1).run("(A)".repeat(45) + "*A()", 1).gave("A").run("(A)".repeat(46), -139);
    }

    private static void aBracketBeforeAClassBeginsACast() {
        new Session().run("(A)*A()", 1).run("(  A  )*A()", 1).run("(H)*A()", -8000).run("(I)*A()", -2);
        new Session().run("(A)", -4).run("(A.f)", -3).run("(A())", -3).run("((A)*A())", 1).run("((A))", -5);
        // it goes as far as it can: behind it stands an expression with all its selections
        Session s = new Session().declare("B:A{Af;}", 2);
        s.run("(B)*B(*A()).f", 2).run("((B)*B(*A())).f", 1).gave("A");
    }

    private static void eightBrackets() {
        new Session().run("(".repeat(7) + "*A()" + ")".repeat(7), 1).run("(".repeat(8) + "*A()" + ")".repeat(8), -11);
        Session s = new Session().declare("B:A{Af;Bm(Ax)=t;}", 2);
        s.run("*B(".repeat(7) + "*A()" + ")".repeat(7), 1).gave("B(".repeat(7) + "A" + ")".repeat(7));
        s.run("*B(".repeat(8) + "*A()" + ")".repeat(8), -27);
        Session c = new Session().declare("B:A{Bm(Ax)=t;}", 2);
        c.run("*B().m(".repeat(7) + "*A()" + ")".repeat(7), 1).left(13);
        c.run("*B().m(".repeat(8) + "*A()" + ")".repeat(8), -59);
        Session t = new Session().declare("B[X:A]:A{}", 2);
        t.run("*" + "B[".repeat(8) + "A" + "]".repeat(8) + "()", 1).run("*" + "B[".repeat(9) + "A" + "]".repeat(9) + "()", -19);
        t.declare("C:" + "B[".repeat(8) + "A" + "]".repeat(8) + "{}", 3);
        t.declare("D:" + "B[".repeat(9) + "A" + "]".repeat(9) + "{}", -20);
        t.declare("D:A{Am()=" + "(".repeat(7) + "t" + ")".repeat(7) + ";}", 4);
        t.declare("E:A{Am()=" + "(".repeat(8) + "t" + ")".repeat(8) + ";}", -17);
    }

    /** A type in eight brackets, each time as the first, second or third in them, is filled in down to the last. */
    private static void eightBracketsInAnyPlace() {
        for (String around : new String[] {"B[@,A,A]", "B[A,@,A]", "B[A,A,@]"}) {
            Session s = new Session().declare("B[X:A,Y:A,Z:A]:A{}", 2).declare("C:A{}", 3);
            s.declare("D[X:A]:" + nested(around, 8, "X") + "{}", 4).declare("E:D[C]{}", 5);
            s.declare("F[X:A]:A{" + around.replace("@", "X") + "f;}", 6).declare("G[X:A]:" + nested(around, 7, "X") + "{}", 7);
            s.run("*F[" + nested(around, 7, "C") + "](*E())", 1).gave("F(E)");
            s.run("*F[" + nested(around, 7, "A") + "](*E())", -9000);
            s.run("*F[" + nested(around, 6, "C") + "](*G[C]())", 1).gave("F(G)");
            s.run("(" + nested(around, 7, "C") + ")*G[C]()", 1).gave("G");
            s.run("(" + nested(around, 7, "A") + ")*G[C]()", -10000);
            s.declare("H:" + nested(around, 9, "A") + "{}", -1 - "H:".length() - 8 * around.indexOf('@') - 1);
        }
    }

    private static String nested(String around, int depth, String in) {
        return depth == 0 ? in : around.replace("@", nested(around, depth - 1, in));
    }

    /** Eight are open; what would open the ninth cannot be, whatever it is for. */
    private static void theNinthBracketOfEachKind() {
        String seven = "(".repeat(7);
        String eight = "(".repeat(8);
        for (String ninth : new String[] {"(x)", "(A)x", "*A()", "*A[A]()", "x.m()", "x.m[A]()"}) {
            int place = Math.min(place(ninth, '('), place(ninth, '['));
            new Session().run(eight + ninth + ")".repeat(8), -1 - 8 - place);
        }
        for (String eighth : new String[] {"(x)", "(A)x", "x.m()", "x.m[A]()"}) {
            new Session().run(seven + eighth + ")".repeat(7), -5000);
        }
        new Session().run(seven + "*A()" + ")".repeat(7), 1).run(seven + "*A[A]()" + ")".repeat(7), -8000);
        new Session().run(seven + "(A[A])x" + ")".repeat(7), -10).run("(".repeat(6) + "(A[A])x" + ")".repeat(6), -5000);
        new Session().run(seven + "x.m[A[A]]()" + ")".repeat(7), -13);
        String six = "B[".repeat(6);
        String ends = "]".repeat(6);
        new Session().declare("B[X:" + six + "B[A]" + ends + "]:A{}", -2000).declare("B[X:" + six + "B[B[A]]" + ends + "]:A{}", -20);
        new Session().declare("B:A{" + six + "B[A]" + ends + "f;}", -2000).declare("B:A{" + six + "B[B[A]]" + ends + "f;}", -20);
        new Session().declare("B:A{Am(" + six + "A" + ends + "x)=t;}", -2000).declare("B:A{Am(" + six + "B[A]" + ends + "x)=t;}", -21);
        new Session().declare("B:A{Am[X:" + six + "A" + ends + "]()=t;}", -2000);
        new Session().declare("B:A{Am[X:" + six + "B[A]" + ends + "]()=t;}", -23);
    }

    private static int place(String text, char bracket) {
        int i = text.indexOf(bracket);
        return i < 0 ? text.length() : i;
    }

    private static void closedBracketsDoNotCount() {
        new Session().run("(A)".repeat(9) + "(".repeat(7) + "*A()" + ")".repeat(7), 1);
        Session s = new Session().declare("B[X:A]:A{B[X]m[Y:A](Ax)=t;}", 2);
        s.run("*B[A]()" + ".m[A](*A())".repeat(12), 1).left(8);
        s.run("*B[A]().m[A](*A()).m[A](" + "(".repeat(6) + "*A()" + ")".repeat(7), 1);
        s.run("*B[A]().m[A](*A()).m[A](" + "(".repeat(7) + "*A()" + ")".repeat(8), -34);
        s.declare("C[X:B[A]]:B[B[A]]{B[B[A]]f;An[Y:B[A]](B[A]x)=" + "(".repeat(7) + "t" + ")".repeat(7) + ";B[A]g;}", 3);
    }

    private static void sixFields() {
        new Session().declare("B:A{Aa;Ab;Ac;Ad;Ae;Af;}", 2).fields(1, 6);
        new Session().declare("B:A{Aa;Ab;Ac;Ad;Ae;Af;Ag;}", -3000).fields(1, -1);
        Session s = new Session().declare("B:A{Aa;Ab;Ac;}", 2);
        s.declare("C:B{Ad;Ae;Af;Ag;}", -3000).declare("C:B{Ad;Ae;Af;}", 3).fields(2, 6);
        s.declare("D:C{Ag;}", -3000).declare("D:C{}", 4).fields(3, 6).declare("E:D{Am()=t;Ag;}", -3000).declare("E:D{Am()=t;}", 5);
        s.run("*E(*A(),*A(),*A(),*A(),*A(),*A()).f", 1).gave("A");
        // its type is looked at before the number, and the number before what stands behind it
        s.declare("F:C{Hg;}", -2000).declare("F:C{Ag;Hh;}", -3000);
    }

    /** Each C in another makes one call more, so twelve are eleven C's and what is in them. */
    private static void twelveCalls() {
        Session s = chains();
        s.run("*E(*C(*B())).y().y().x.m()", 40, 1).gave("A").left(40 - 2 - 12);
        s.run("*E(*C(*C(*B()))).y().y().x.m()", 40, 4).gave("").left(40 - 2 - 13);
        // one behind another, and those in a call's expressions, are not in one another
        Session f = new Session().declare("B:A{Bm(Ax)=t;Bn()=t.m(t.m(t.m(t.m(t.m(t)))));}", 2);
        f.run("*B()" + ".n()".repeat(6) + ".m(*A())".repeat(4), 40, 1).left(0);
        // for ever, by one and by two methods
        Session g = new Session().declare("B:A{Am()=t.m();An()=t.o();Ao()=t.n();}", 2);
        g.run("*B().m()", 40, 4).left(27).run("*B().n()", 40, 4).left(27);
    }

    private static Session chains() {
        Session s = new Session().declare("B:A{Am()=*A();}", 2).declare("C:B{Bf;Am()=t.f.m();}", 3);
        return s.declare("E:B{Bx;Ey()=*E(*C(*C(*C(*C(*C(t.x))))));}", 4);
    }

    private static void depthIsLookedAtBehindTheFuel() {
        Session s = chains();
        s.run("*E(*C(*C(*B()))).y().y().x.m()", 14, 3).left(0);
        s.run("*E(*C(*C(*B()))).y().y().x.m()", 15, 4).left(0);
        s.run("*E(*C(*C(*B()))).y().y().x.m()", 16, 4).left(1);
        s.run("*E(*C(*B())).y().y().x.m()", 13, 3).left(0).run("*E(*C(*B())).y().y().x.m()", 14, 1).left(0);
        // the thirteenth call's own expressions come before both
        Session d = new Session().declare("B:A{Am(Ax)=t.m(x);An(Ax)=t.n((B)x);}", 2);
        d.run("*B().n(*A())", 40, 2).left(39).run("*B().n(*A())", 1, 2).left(0).run("*B().n(*B())", 40, 4).left(27);
    }

    /** Two classes, something typed, a value, and fuel left: nothing of it may change. */
    private static Session withAll() {
        Session s = new Session().declare("C:A{Af;Am()=t;}", 2).run("*C(*A()).m()", 9, 1).say("*C(*A(");
        return s;
    }

    private static void isAllThere(Session s) {
        s.gave("C(A)").left(8);
        for (int c = 0; c < 8; c++) {
            s.fields(c, c == 0 ? 0 : c == 2 ? 1 : -1).method(c, 'm', c == 2 ? 2 : -1);
        }
        s.run(")).f", 30, 1).gave("A").left(30);
    }

    private static void refusedTypeChangesNothing() {
        int[][] refused = {{'f', 0}, {'f', -1}, {'f', 5}, {0x20202020, 1 << 31}, {31, 1}, {127, 1}, {0, 4}, {-1, 4}, {-1, 1},
            {'(' << 24 | ')' << 16 | ')' << 8 | 31, 4}, {31 << 24 | 0x202020, 4}, {0x201f20, 3}};
        for (int[] call : refused) {
            Session s = withAll();
            Session.due("type(" + call[0] + ", " + call[1] + ")", s.x.type(call[0], call[1]), false);
            isAllThere(s);
        }
        Session s = withAll().say(" ".repeat(130));
        Session.due("four behind 136", s.x.type(Session.word(")).g"), 4), true);
        for (int n = 1; n <= 4; n++) {
            Session.due(n + " behind 140", s.x.type(Session.word(")).g"), n), false);
        }
        s.run("", -6000);
        s = withAll().say(" ".repeat(131));
        Session.due("four behind 137", s.x.type(Session.word("xxxx"), 4), false);
        s.run("))", 1).gave("C(A)");
    }

    private static void refusedRunChangesNothing() {
        for (int fuel : new int[] {-1, 41, -40, 100, Integer.MIN_VALUE, Integer.MAX_VALUE}) {
            Session s = withAll();
            Session.due("run(" + fuel + ")", s.x.run(fuel), -100000);
            Session.due("run(" + fuel + ") again", s.x.run(fuel), -100000);
            isAllThere(s);
        }
    }
}
