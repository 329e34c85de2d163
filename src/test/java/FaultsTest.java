/** Where a text is faulty: for promises 3 and 4. */
public final class FaultsTest {
    public static void main(String[] args) {
        declarations();
        bounds();
        members();
        expressions();
        spacesAndEnds();
        brackets();
        faultsComeBeforeWrongs();
        Session.end();
    }

    /** Declares the text, of which the character in front of the mark cannot be as it is. */
    private static void faulty(String marked) {
        int place = marked.indexOf('!') - 1;
        new Session().declare(marked.replace("!", ""), -1 - place);
    }

    private static void faultyEnd(String text) {
        new Session().declare(text, -1 - text.length());
    }

    private static void faultyRun(String marked) {
        int place = marked.indexOf('!') - 1;
        new Session().run(marked.replace("!", ""), -1 - place);
    }

    private static void faultyRunEnd(String text) {
        new Session().run(text, -1 - text.length());
    }

    private static void declarations() {
        for (String text : new String[] {"I!:A{}", "S!:A{}", "b!:A{}", "*!A()", "1!", "B{!}", "BA!", "B:I!{}", "B:X!{}",
            "B:a!{}", "B::!", "B:AA!", "B:A;!", "B:A(!", "B:A{}B!", "B:A{}}!", "B:A[]!{}", "B:A[A]]!", "B:A[A;!",
            "B:A[A,]!", "B:A[a!]{}", "B:A[I!]{}", "B:A[R!]{}", "B:A[A,A,A,!A]{}", "B:A[X[!A]]{}", "@!"}) {
            faulty(text);
        }
        for (String text : new String[] {"", "B", "B:", "B:A", "B:A[", "B:A[A", "B:A[A,", "B:A[A]", "B:A{"}) {
            faultyEnd(text);
        }
        new Session().declare("H:A{}", 2);
    }

    private static void bounds() {
        for (String text : new String[] {"B[]!:A{}", "B[A!:A]:A{}", "B[R!:A]:A{}", "B[x!:A]:A{}", "B[X]!:A{}",
            "B[X,!Y:A]:A{}", "B[X:Y!]:A{}", "B[X:x!]:A{}", "B[X:A,]!:A{}", "B[X:A;!", "B[X:A]]!",
            "B[X:A,Y:A,Z:A,!W:A]:A{}", "B[X:A]{!}", "B[X:A][!Y:A]:A{}", "B(!X:A)"}) {
            faulty(text);
        }
        for (String text : new String[] {"B[", "B[X", "B[X:", "B[X:A", "B[X:A,", "B[X:A]"}) {
            faultyEnd(text);
        }
        new Session().declare("B[S:A,Z:A,T:A]:A{}", 2);
    }

    private static void members() {
        for (String text : new String[] {"B:A{;!}", "B:A{a!}", "B:A{A;!}", "B:A{AF!;}", "B:A{Aff!;}", "B:A{Af,!",
            "B:A{Af}!", "B:A{Af:!", "B:A{Af;;!}", "B:A{I!m;}", "B:A{X[!A]f;}", "B:A{Am[]!()=t;}",
            "B:A{Am[X:A];!", "B:A{Am[X:A,Y:A,Z:A,!W:A]()=t;}", "B:A{Am();!}", "B:A{Am()t!;}", "B:A{Am()=;!}",
            "B:A{Am()=t}!", "B:A{Am()=t,!", "B:A{Am()=t)!;}", "B:A{Am(,!)=t;}", "B:A{Am(A)!=t;}", "B:A{Am(Ax,)!=t;}",
            "B:A{Am(x!)=t;}", "B:A{Am(AX!)=t;}", "B:A{Am(Ax;!)=t;}", "B:A{Am(Ax,Ay,Az,!Aw)=t;}", "B:A{Am(Axy!)=t;}"}) {
            faulty(text);
        }
        for (String text : new String[] {"B:A{A", "B:A{Af", "B:A{Af;", "B:A{Am(", "B:A{Am()", "B:A{Am()=", "B:A{Am()=t",
            "B:A{Am()=t;", "B:A{Am(A", "B:A{Am(Ax", "B:A{Am(Ax,", "B:A{Am[", "B:A{Am[X:A]", "B:A{Am()=t."}) {
            faultyEnd(text);
        }
        new Session().declare("B:A{Am(Ax,Ay,Az)=x;}", 2);
    }

    private static void expressions() {
        for (String text : new String[] {"A!", "S!", "(S!)*A()", "()!", "(a,!b)", "*a!()", "*S!()", "**!A()", "*A)!",
            "*A().A!", "*A()..!a", "*A()(!)", "*A()[!A]", "*A();!", "*A()*!A()", "*A(,!)", "*A(a,)!", "*A(a;!)",
            "*A[]!()", "*A[A,A,A,!A]()", "*A[A].!a", "(A.!a)", "(A,!", "(A)A!", "(A))!", "(A)*)!", "(AA!)x", "(A[]!)x",
            "x.a[]!()", "x.a[A].!b", "x.a[A,A,A,!A]()", "x.a[a!]()", "x.a())!", "xy!", "(x))!", "x)!", "x=!", "x:!",
            "x.a[A](A!)", "x.a.(!)", "x.a[A[A]]]!", "x{!}", "(x.a]!", "*A(x]!", "*A[A)!"}) {
            faultyRun(text);
        }
        for (String text : new String[] {"", "*", "*A", "*A(", "*A(x", "*A(x,", "*A[", "*A[A", "*A[A]", "(", "(x", "(A",
            "(A[", "(A[A", "(A)", "(A)(A)", "x.", "x.a(", "x.a[", "x.a[A", "x.a[A]", "x.a[A](", "(A)*"}) {
            faultyRunEnd(text);
        }
        // any number of expressions may stand in the brackets of an object or a call: that is wrong, not faulty
        new Session().run("*A(a,b,c,d,e,f,g,h,i,j,k,l)", -7000);
        new Session().run("*A().m(a,b,c,d,e,f,g,h,i,j,k,l)", -7000);
    }

    private static void spacesAndEnds() {
        new Session().run("  * A ( ) ", 1).gave("A");
        new Session().run(" ( A ) ( ( A )*A( ) )", 1).gave("A");
        new Session().declare(" B [ X : A , Y : A ] : A { X f ; A m [ Z : A ] ( Z x ) = x ; } ", 2);
        new Session().run("   ", -4);
        new Session().declare("   ", -4);
        new Session().run("*A ", -4);
        new Session().run("  x  y", -6);
        new Session().run("( S )", -3);
        new Session().declare("B : A { }  x", -12);
    }

    private static void brackets() {
        new Session().run("(".repeat(7) + "*A()" + ")".repeat(7), 1);
        new Session().run("(".repeat(8) + "*A()" + ")".repeat(8), -11);
        new Session().run("(".repeat(8) + "x" + ")".repeat(8), -5000);
        new Session().run("(".repeat(9) + "x" + ")".repeat(9), -9);
        new Session().run("(".repeat(8) + "(A)x" + ")".repeat(8), -9);
        new Session().run("(".repeat(7) + "(A)x" + ")".repeat(7), -5000);
        new Session().run("(".repeat(7) + "(A[A])x" + ")".repeat(7), -10);
        new Session().run("*B[".repeat(1) + "B[".repeat(7) + "A" + "]".repeat(8) + "()", -8000);
        new Session().run("*B[" + "B[".repeat(8) + "A" + "]".repeat(9) + "()", -19);
        // those that are closed do not count
        new Session().run("(A)".repeat(45) + "x", -5000);
        new Session().run("(A)".repeat(45) + "*A()", 1);
        new Session().run("x" + ".a()".repeat(34), -5000);
        // the braces of a declaration and all kinds count together
        new Session().declare("B:A{Am()=" + "(".repeat(7) + "t" + ")".repeat(7) + ";}", 2);
        new Session().declare("B:A{Am()=" + "(".repeat(8) + "t" + ")".repeat(8) + ";}", -17);
        new Session().declare("B:A{Am()=" + "(".repeat(6) + "*A()" + ")".repeat(6) + ";}", 2);
        new Session().declare("B:A{Am()=" + "(".repeat(7) + "*A()" + ")".repeat(7) + ";}", -19);
        new Session().declare("B:" + "C[".repeat(8) + "A" + "]".repeat(8) + "{}", -2000);
        new Session().declare("B:" + "C[".repeat(9) + "A" + "]".repeat(9) + "{}", -20);
        new Session().declare("B[X:" + "C[".repeat(7) + "A" + "]".repeat(7) + "]:A{}", -2000);
        new Session().declare("B[X:" + "C[".repeat(8) + "A" + "]".repeat(8) + "]:A{}", -20);
        new Session().declare("B:A{" + "C[".repeat(7) + "A" + "]".repeat(7) + "f;}", -2000);
        new Session().declare("B:A{" + "C[".repeat(8) + "A" + "]".repeat(8) + "f;}", -20);
        new Session().declare("B:A{Am[X:" + "C[".repeat(6) + "A" + "]".repeat(6) + "]()=t;}", -2000);
        new Session().declare("B:A{Am[X:" + "C[".repeat(7) + "A" + "]".repeat(7) + "]()=t;}", -23);
        new Session().declare("B:A{Am(" + "C[".repeat(6) + "A" + "]".repeat(6) + "x)=t;}", -2000);
        new Session().declare("B:A{Am(" + "C[".repeat(7) + "A" + "]".repeat(7) + "x)=t;}", -21);
    }

    private static void faultsComeBeforeWrongs() {
        new Session().declare("A:A{}x", -6);
        new Session().declare("B:A{Xf;At;Am()=y;", -18);
        new Session().run("*B().m(x)!", -10);
    }
}
