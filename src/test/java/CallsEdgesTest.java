/** The edges that promises 1 to 9 name, and the 512 calls that an object is used for. */
public final class CallsEdgesTest {
    private static final int CALLS = 512;
    private static final int[] ENDS = {Integer.MIN_VALUE, Integer.MIN_VALUE + 1, -65536, -256, -1, 256, 65536,
        Integer.MAX_VALUE - 1, Integer.MAX_VALUE};

    public static void main(String[] args) {
        newHasOnlyA();
        newHasNothingTyped();
        typeTakesOneToFour();
        typeTakesPrintedBytes();
        typeTakesWordsOfAnySign();
        typeTakes140();
        declareOfNothing();
        declareTheEighthClass();
        declareThatFailsLeavesAll();
        declareTakesWhatIsTyped();
        runWithFuel();
        runOfNothing();
        runAnswersEach();
        textOf199To201();
        textOfNoValue();
        atOutsideTheText();
        leftBeforeAnyRun();
        leftOfTheLastThatRan();
        fieldsOfClasses();
        methodsOfClasses();
        aClassThatIsNotThere();
        fullObjectFor512Calls();
        quickCallsUpTo512();
        runsThatMakeTheMost();
        runsThatWaitForTheMost();
        textsThatAwaitTheMost();
        Session.end();
    }

    // ---- promise 1

    private static void newHasOnlyA() {
        Session s = new Session().fields(0, 0);
        for (int c = 1; c < 8; c++) {
            s.fields(c, -1).run("*" + (char) ('A' + c) + "()", -8000);
        }
        for (char m = 'a'; m <= 'z'; m++) {
            s.method(0, m, -1);
        }
        // no bounds, no members, below none
        s.run("*A()", 1).gave("A").run("*A[A]()", -8000).run("*A(*A())", -7000).run("*A().a", -6000).run("*A().a()", -7000);
        s.declare("A:A{}", -1000).declare("B:A{}", 2);
    }

    private static void newHasNothingTyped() {
        new Session().declare("", -1).run("", -1).gave("").left(0);
        new Session().run("", -1).declare("", -1);
        Session s = new Session().say("*A()" + " ".repeat(136));
        Session.due("one more than 140", s.x.type(' ', 1), false);
        s.run("", 1);
    }

    // ---- promise 2

    private static void typeTakesOneToFour() {
        Session s = new Session();
        int word = Session.word("*A()");
        for (int n = -70; n <= 70; n++) {
            if (n < 1 || n > 4) {
                Session.due("type(word, " + n + ")", s.x.type(word, n), false);
            }
        }
        for (int n : ENDS) {
            Session.due("type(word, " + n + ")", s.x.type(word, n), false);
        }
        s.run("", -1);
        Session.due("type(word, 4)", s.x.type(word, 4), true);
        s.run("", 1);
        Session.due("the lowest three", s.x.type(Session.word("x*A("), 3), true);
        Session.due("the lowest one", s.x.type(Session.word("xyz)"), 1), true);
        s.run("", 1).gave("A");
        Session.due("the lowest two", s.x.type(Session.word("xy*A"), 2), true);
        s.run("()", 1);
    }

    private static void typeTakesPrintedBytes() {
        for (int c = 0; c < 256; c++) {
            boolean fits = c >= 32 && c <= 126;
            BoundedTypes x = new BoundedTypes();
            for (int n = 1; n <= 4; n++) {
                for (int k = 0; k < n; k++) {
                    int word = 0x41414141 & ~(255 << 8 * k) | c << 8 * k;
                    Session.due("type(" + word + ", " + n + ")", x.type(word, n), fits);
                }
                // above the n lowest it is not looked at
                for (int k = n; k < 4; k++) {
                    int word = 0x41414141 & ~(255 << 8 * k) | c << 8 * k;
                    Session.due("type(" + word + ", " + n + ")", x.type(word, n), true);
                }
            }
        }
    }

    private static void typeTakesWordsOfAnySign() {
        for (int high : new int[] {0x80000000, 0xff000000, 0x7f000000, 0xffffff00, 0x80ff1f00, 0}) {
            Session s = new Session().say("*A(");
            Session.due("type(" + (high | ')') + ", 1)", s.x.type(high | ')', 1), true);
            Session.due("type(" + (high | ')') + ", 4)", s.x.type(high | ')', 4), false);
            s.run("", 1).gave("A");
        }
        Session s = new Session();
        Session.due("four spaces", s.x.type(0x20202020, 4), true);
        Session.due("four of the highest", s.x.type(0x7e7e7e7e, 4), true);
        s.run("", -5);
        for (int word : new int[] {-1, Integer.MIN_VALUE, Integer.MAX_VALUE, 0, 0x1f202020, 0x7f202020, 0x7e7e7e7f}) {
            Session.due("type(" + word + ", 4)", s.x.type(word, 4), false);
        }
        s.run("", -1);
    }

    private static void typeTakes140() {
        for (int n = 1; n <= 4; n++) {
            BoundedTypes x = new BoundedTypes();
            for (int k = 0; k < 140 / n; k++) {
                Session.due(n + " more", x.type(0x20202020, n), true);
            }
            int rest = 140 % n;
            for (int more = 4; more > rest; more--) {
                Session.due(more + " more, beyond 140", x.type(0x20202020, more), false);
            }
            Session.due("the rest of 140", rest == 0 || x.type(0x20202020, rest), true);
            Session.due("more than 140", x.type(0x20202020, 1), false);
            Session.due("run(0)", x.run(0), -141);
        }
        // all of them count, the last one too, and there is room again when they were taken
        String full = "*A(" + " ".repeat(136) + ")";
        new Session().run(full, 1).run(full, 1).declare(full, -1).run(full, 1).gave("A");
        new Session().declare("B:A{" + " ".repeat(135) + "}", 2).run("*B(" + " ".repeat(136) + "x", -141);
    }

    // ---- promise 3

    private static void declareOfNothing() {
        Session s = new Session().declare("", -1).declare("", -1).declare("B:A{}", 2).declare("", -1);
        s.fields(1, 0).fields(2, -1);
    }

    private static void declareTheEighthClass() {
        for (String order : new String[] {"BCDEFGH", "HGFEDCB", "EBHCGDF"}) {
            Session s = new Session();
            for (int i = 0; i < 7; i++) {
                char above = i == 0 ? 'A' : order.charAt(i - 1);
                char field = (char) ('a' + i);
                s.declare(order.charAt(i) + ":" + above + "{" + (i < 6 ? "A" + field + ";" : "") + "A" + field + "()=t;}", i + 2);
                s.fields(order.charAt(i) - 'A', Math.min(6, i + 1));
            }
            for (char c = 'A'; c <= 'H'; c++) {
                s.declare(c + ":A{}", -1000);
            }
            char last = order.charAt(6);
            s.method(last - 'A', 'a', order.charAt(0) - 'A').method(last - 'A', 'g', last - 'A');
            s.run("(" + order.charAt(0) + ")(A)*" + last + "(*A(),*A(),*A(),*A(),*A(),*A())", 1).gave(last + "(A,A,A,A,A,A)");
            s.declare("I:A{}", -1);
        }
    }

    private static void declareThatFailsLeavesAll() {
        String[][] failing = {{"D:B{Ag;An()=t;", "-15"}, {"", "-1"}, {"D:B{}}", "-6"}, {"B:A{Ag;Ah;An()=t;}", "-1000"},
            {"A:B{Ag;}", "-1000"}, {"D[X:A,X:A]:B{}", "-1000"}, {"D:B{Ag;An[X:A,X:A]()=t;}", "-1000"}, {"D:D{Ag;}", "-2000"},
            {"D[X:H]:B{}", "-2000"}, {"D:B{Ag;Hh;}", "-2000"}, {"D:B{Ag;Ag;}", "-3000"}, {"D:B{Ag;An()=t;An()=t;}", "-3000"},
            {"D:B{Ag;An()=t;Am(Ax)=t;}", "-4000"}, {"D:B{Ag;An()=x;}", "-5000"}, {"D:B{Ag;An()=t.h;}", "-6000"},
            {"D:B{Ag;An()=t.o();}", "-7000"}, {"D:B{Ag;An()=*H();}", "-8000"}, {"D:B{Dg;An()=*B(t.n());Am()=*D(t,t.f);}", "-9000"},
            {"D:B{Ag;An(Cc)=(D)c;}", "-10000"}, {"D:B{Ag;Dn()=t.f;}", "-11000"}};
        for (String[] one : failing) {
            Session s = new Session().declare("B:A{Af;Am()=t;}", 2).declare("C:A{}", 3).run("*B(*A()).m()", 7, 1);
            s.declare(one[0], Integer.parseInt(one[1]));
            s.gave("B(A)").left(6);
            int[] fields = {0, 1, 0, -1, -1, -1, -1, -1};
            for (int c = 0; c < 8; c++) {
                s.fields(c, fields[c]).method(c, 'm', c == 1 ? 1 : -1).method(c, 'n', -1);
            }
            s.run("", -1).run("*D(*A(),*A())", -8000).run("*B(*A()).m()", 1).gave("B(A)");
            s.declare("E:D{}", -2000).declare("D:B{}", 4).fields(3, 1).method(3, 'n', -1).method(3, 'm', 1);
        }
    }

    private static void declareTakesWhatIsTyped() {
        Session s = new Session().declare("B:A{}", 2).run("", -1).declare("C:A{", -5).run("", -1).declare("C:H{}", -2000).run("", -1);
        // a declaration is no expression, and an expression none
        s.declare("*B()", -1).run("C:A{}", -1).declare("C:A{}", 3);
    }

    // ---- promise 4

    private static void runWithFuel() {
        Session s = new Session().declare("B:A{Bm()=t;}", 2).say("*B().m()");
        for (int fuel : new int[] {-1, 41, -40, 42, Integer.MIN_VALUE, Integer.MAX_VALUE}) {
            Session.due("run(" + fuel + ")", s.x.run(fuel), -100000);
        }
        s.run("", 0, 3).left(0).run("*B().m()", 1, 1).left(0).run("*B().m()", 39, 1).left(38);
        s.run("*B().m()", 40, 1).left(39).run("*B()", 0, 1).left(0).run("*B()", 40, 1).left(40);
        // all forty are there to be used
        s.declare("C:A{Cn()=t.o(t.o(t.o(t.o(t))));Co(Cc)=t;}", 3);
        s.run("*C()" + ".n()".repeat(8), 40, 1).left(0).run("*C()" + ".n()".repeat(8) + ".n()", 40, 3).left(0);
        s.run("*C()" + ".n()".repeat(8), 39, 3).left(0);
    }

    private static void runOfNothing() {
        new Session().run("", 0, -1).run("", 40, -1).run("", 41, -100000).run("", -1, -100000).gave("").left(0);
    }

    private static void runAnswersEach() {
        Session s = new Session().declare("B:A{Af;Bm(Ax)=t;Bn()=t.n();}", 2).declare("C[X:A]:A{}", 3).declare("D:A{}", 4);
        s.run("*D()", 1).run("(D)(A)*B(*A())", 2).run("*B(*A()).n()", 12, 3).run("*B(*A()).n()", 13, 4);
        s.run("*D", -3).run("", -1).run("*D()" + " ".repeat(135) + "x", -140).run("", 41, -100000);
        s.run("x", -5000).run("*D().f", -6000).run("*D().m()", -7000).run("*D(*A())", -7000).run("*C()", -8000);
        s.run("*B(*A()).m(*A()).m()", -7000).run("*H()", -8000).run("(H)*A()", -8000).run("*B(*A()).m[A](*A())", -7000);
        s.declare("E:A{Am(Dd)=d;Xn[X:D](Xx)=x;}", 5).run("*E().m(*A())", -9000).run("*E().n[A](*A())", -8000);
        s.run("(D)*B(*A())", -10000).run("(C[A])*A()", -10000).run("*E().m(*D())", 1);
    }

    // ---- promises 5 and 6

    /** A is one character, a B around it three more, a D around it five. */
    private static void textOf199To201() {
        Session s = new Session().declare("B:A{Af;}", 2).declare("C:A{Ax;Cw()=*C(*B(*B(*B(*B(*B(t.x))))));}", 3);
        s.declare("D:A{Ag;Ah;}", 4);
        s.run("*B(" + wrapped(13) + ")", 1);
        isText(s, chain(66), 199);
        s.run("*D(*D(*B(*B(*B(" + wrapped(12) + "))),*A()),*A())", 1);
        isText(s, "D(D(" + chain(63) + ",A),A)", 200);
        s.run("*D(" + wrapped(13) + ",*A())", 1);
        isText(s, "D(" + chain(65) + ",A)", 201);
        s.run(wrapped(20), 1);
        isText(s, chain(100), 301);
    }

    private static String wrapped(int fives) {
        return "*C(*A())" + ".w()".repeat(fives) + ".x";
    }

    private static String chain(int count) {
        return "B(".repeat(count) + "A" + ")".repeat(count);
    }

    private static void isText(Session s, String whole, int length) {
        Session.due("length of what is due", whole.length(), length);
        s.length(Math.min(200, length));
        for (int i = -2; i < length + 3; i++) {
            boolean isThere = i >= 0 && i < length && i < 200;
            s.at(i, isThere ? whole.charAt(i) : -1);
        }
    }

    private static void textOfNoValue() {
        new Session().gave("").declare("B:A{}", 2).gave("");
        for (String[] one : new String[][] {{"(B)*A()", "2"}, {"*B().m()", "3"}, {"*B().n()", "4"}, {"*B(", "-4"}, {"", "-1"},
            {"x", "-5000"}, {"*B().f", "-6000"}}) {
            Session s = new Session().declare("B:A{Am()=t.k(t.n());An()=t.n();Ak(Ax)=t;}", 2).run("*B()", 1).gave("B");
            int fuel = one[1].equals("3") ? 6 : 20;
            s.run(one[0], fuel, Integer.parseInt(one[1])).gave("");
            for (int i : new int[] {0, 1, 2, 199, 200}) {
                s.at(i, -1);
            }
            s.run("*A()", 1).gave("A");
        }
        // a refused run is none: the value of the one before it is still there
        new Session().run("*A()", 1).run("", 41, -100000).gave("A").run("", -1, -100000).gave("A");
    }

    private static void atOutsideTheText() {
        Session s = new Session().declare("B:A{Af;}", 2).run("*B(*A())", 1);
        s.at(0, 'B').at(3, ')');
        for (int i : ENDS) {
            s.at(i, -1);
        }
        for (int i : new int[] {-2, -1, 4, 5, 199, 200, 201}) {
            s.at(i, -1);
        }
        // a shorter one leaves nothing of a longer one behind it
        s.run("*A()", 1).gave("A").at(2, -1);
    }

    // ---- promise 7

    private static void leftBeforeAnyRun() {
        new Session().left(0).declare("B:A{}", 2).left(0).say("*A()").left(0);
        new Session().run("*A(", 30, -4).left(0).run("x", 30, -5000).left(0).run("", 41, -100000).left(0).run("", 30, -1).left(0);
    }

    private static void leftOfTheLastThatRan() {
        int[] fuels = {5, 6, 3, 14, 0, 40};
        String[] before = {"*B()", "(B)*A()", "*B().m()", "*B().m()", "*B()", "*B().n()"};
        int[] answers = {1, 2, 3, 4, 1, 1};
        int[] left = {5, 6, 0, 1, 0, 39};
        for (int i = 0; i < fuels.length; i++) {
            Session s = new Session().declare("B:A{Am()=t.m();Bn()=t;}", 2).run("*B()", 22, 1).left(22);
            s.run(before[i], fuels[i], answers[i]).left(left[i]);
            s.run("*B().n(", 30, -8).left(left[i]).run("*B().o()", 30, -7000).left(left[i]);
            s.run("", 41, -100000).left(left[i]).run("", -1, -100000).left(left[i]).run("", 17, -1).left(left[i]);
            s.declare("C:H{}", -2000).left(left[i]).declare("C:A{}", 3).left(left[i]);
            s.run("*B().n().n()", 30, 1).left(28);
        }
    }

    // ---- promises 8 and 9

    private static Session withBAndH() {
        return new Session().declare("B:A{Aa;Ab;Aa()=t;Az()=t;Am()=t;}", 2).declare("H[X:A]:B{Xc;Am()=t;}", 3);
    }

    private static void fieldsOfClasses() {
        Session s = withBAndH().fields(-2, -1).fields(-1, -1).fields(0, 0).fields(1, 2).fields(2, -1).fields(6, -1);
        s.fields(7, 3).fields(8, -1).fields(9, -1).fields('A', -1).fields('B', -1).fields('H', -1);
        for (int c : ENDS) {
            s.fields(c, -1);
        }
    }

    private static void methodsOfClasses() {
        Session s = withBAndH().method(0, 'a', -1).method(1, 'a', 1).method(1, 'z', 1).method(1, 'm', 1);
        s.method(7, 'a', 1).method(7, 'z', 1).method(7, 'm', 7).method(7, 'b', -1).method(7, 'c', -1).method(1, 'y', -1);
        for (int c : new int[] {0, 1, 2, 7}) {
            for (int m : ENDS) {
                Session.due("method(" + c + ", " + m + ")", s.x.method(c, m), -1);
            }
            for (int m : new int[] {-26, -2, -1, 26, 27, 52, 'a', 'm', 'z'}) {
                Session.due("method(" + c + ", " + m + ")", s.x.method(c, m), -1);
            }
        }
        for (int c : ENDS) {
            s.method(c, 'a', -1).method(c, 'z', -1);
        }
        s.method(-1, 'a', -1).method(8, 'a', -1).method(2, 'a', -1).method(6, 'a', -1);
    }

    private static void aClassThatIsNotThere() {
        Session s = new Session().fields(3, -1).method(3, 'm', -1).declare("D:A{Af;Am()=x;}", -5000).fields(3, -1).method(3, 'm', -1);
        s.declare("D:A{Af;Am()=t;", -15).fields(3, -1).method(3, 'm', -1).declare("D:A{Af;Am()=t;}", 2).fields(3, 1).method(3, 'm', 3);
    }

    // ---- up to 512 calls on one object

    /** Seven declarations of 140 characters, then runs of 140 characters with large types, large values and 40 calls. */
    private static void fullObjectFor512Calls() {
        Session s = new Session();
        for (int i = 0; i < 7; i++) {
            String c = "" + (char) ('B' + i);
            String text = "@[X:A]:A{Xf;Xg;@[@[X]]m()=*@[@[X]](t,*@[X](t.f,t.g));@[X]n(@[X]x)=t.o(t.o(t.o(t.o(x))));@[X]o(@[X]x)=x;";
            s.declare((text + " ".repeat(139 - text.length()) + "}").replace("@", c), i + 2);
        }
        String pair = "B(A,A)";
        for (int k = 0; k < 24; k++) {
            pair = "B(" + pair + "," + pair + ")";
            pair = pair.substring(0, Math.min(200, pair.length()));
        }
        String large = "*B[A](*A(),*A())" + ".m()".repeat(24);
        String deep = "*H[A](*A(),*A())" + ".n(*H[A](*A(),*A()))".repeat(6);
        for (int k = 0; k < 3; k++) {
            s.run(large + " ".repeat(140 - large.length()), 40, 1).left(16);
            s.length(200).at(199, pair.charAt(199)).at(200, -1);
            s.run(deep, 40, 1).left(10).gave("H(A,A)");
        }
        Session.due("most of the calls", s.calls > 500, true);
        while (s.calls < CALLS) {
            s.left(10);
        }
        Session.due("calls in all", s.calls, CALLS);
    }

    /** Calls in pairs, up to the 512th. */
    private static void quickCallsUpTo512() {
        BoundedTypes x = new BoundedTypes();
        for (int call = 2; call <= CALLS; call += 2) {
            Session.due("type, call " + (call - 1), x.type(Session.word("*A()"), 4), true);
            Session.due("run, call " + call, x.run(call % 41), 1);
        }
        BoundedTypes y = new BoundedTypes();
        for (int call = 1; call <= CALLS; call++) {
            Session.due("declare, call " + call, y.declare(), -1);
        }
        BoundedTypes z = new BoundedTypes();
        for (int call = 1; call <= CALLS; call++) {
            Session.due("type, call " + call, z.type(' ', 1), call <= 140);
        }
    }

    // ---- as much as 140 characters and a fuel of 40 can ask for; the plain model says what is due

    private static void isAsModel(String[] declarations, String expression, int want) {
        Session s = new Session();
        PlainModel model = new PlainModel();
        for (int i = 0; i < declarations.length; i++) {
            s.declare(declarations[i], i + 2);
            typeInto(model, declarations[i]);
            model.declare();
        }
        s.run(expression, 40, want);
        typeInto(model, expression);
        Session.due("the model's run of " + expression, model.run(40), want);
        s.length(model.length()).left(model.left());
        for (int i = 0; i <= model.length(); i++) {
            s.at(i, model.at(i));
        }
    }

    private static void typeInto(PlainModel model, String text) {
        for (int i = 0; i < text.length(); i++) {
            model.type(text.charAt(i), 1);
        }
    }

    /** Nine objects, each with six fields, in each of 37 calls; the last one's text shows what came of those before. */
    private static void runsThatMakeTheMost() {
        String six = "*B(t,t,t,t,t,t)";
        String body = "*C(@,@,@,@,@,*B(#,#,t,t,t,t))".replace("@", six).replace("#", six);
        String[] declarations = {"B:A{Aa;Ab;Ac;Ad;Ae;Af;}", "C:B{Cm()=" + body + ";}",
            "D:A{Cx(Cc)=c" + ".m()".repeat(10) + ";}"};
        String made = "*D().x(*D().x(*D().x(*C(*A(),*A(),*A(),*A(),*A(),*A()))))" + ".m()".repeat(7);
        isAsModel(declarations, made, 1);
        isAsModel(declarations, "((B)((B)" + made + ".f).a).e", 1);
        isAsModel(declarations, "((B)((B)" + made + ".f).f).f", 1);
        isAsModel(declarations, made + ".m()", 3);
    }

    /** Thirty values and more wait in each of twelve calls in one another, and are all there when these have ended. */
    private static void runsThatWaitForTheMost() {
        String body = "*D(t,t,t,t,t,".repeat(6) + "t.f.m()" + ")".repeat(6);
        String[] declarations = {"D:A{Aa;Ab;Ac;Ad;Ae;Ag;}", "B:A{Am()=*A();}", "C:B{Bf;Am()=" + body + ";}",
            "E:B{Bx;Ey()=*E(*C(*C(*C(*C(*C(t.x))))));}", "F:D{Fs()=*F(t.g,t.g,t.g,t.g,t.g,((D)t.g).g);}"};
        for (String most : new String[] {"*B()", "*C(*B())"}) {
            isAsModel(declarations, "*E(" + most + ").y().y().x.m()", 1);
            String ends = "*D(*A(),*A(),*A(),*A(),*A(),*E(" + most + ").y().y().x.m()).g";
            isAsModel(declarations, ends, 1);
            isAsModel(declarations, "((D)*E(" + most + ").y().y().x.m()).g", 1);
        }
        isAsModel(declarations, "*E(*C(*C(*B()))).y().y().x.m()", 4);
        // from within: each s goes six fields down
        isAsModel(declarations, "*F(*A(),*A(),*A(),*A(),*A(),*E(*C(*B())).y().y().x.m())" + ".s()".repeat(18), 1);
    }

    /** In each of seven brackets six expressions are awaited. */
    private static void textsThatAwaitTheMost() {
        String inFirst = "*B(".repeat(7) + "x" + ",x,x,x,x,x)".repeat(7);
        String inLast = "*B(x,x,x,x,x,".repeat(7) + "x" + ")".repeat(7);
        for (String body : new String[] {inFirst, inLast}) {
            String[] declarations = {"B:A{Aa;Ab;Ac;Ad;Ae;Af;}", "C:A{Bm(Ax)=" + body + ";}"};
            isAsModel(declarations, "*C().m(*C())", 1);
            new Session().declare(declarations[0], 2).declare(declarations[1].replace("(Ax)", "(A y)"), -5000);
            new Session().declare(declarations[0].replace("Af", "Bf"), 2).declare(declarations[1], -9000);
        }
    }
}
