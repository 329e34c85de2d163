/** Promise 4: run, and how an expression runs; promise 7: left. */
public final class RunTest {
    public static void main(String[] args) {
        fuelThatIsRefused();
        typedIsTaken();
        callsByTheObject();
        fromTheLeft();
        casts();
        fuel();
        callsInOneAnother();
        leftAfterwards();
        laterRuns();
        longRuns();
        Session.end();
    }

    private static void fuelThatIsRefused() {
        Session s = new Session();
        s.run("*A()", 9, 1);
        s.say("*A");
        for (int fuel : new int[] {-1, 41, Integer.MIN_VALUE, Integer.MAX_VALUE}) {
            Session.due("run(" + fuel + ")", s.x.run(fuel), -100000);
            s.gave("A").left(9);
        }
        s.run("()", 0, 1).left(0).run("*A()", 40, 1).left(40);
    }

    private static void typedIsTaken() {
        Session s = new Session();
        s.run("*A(", -4).run("*A()", 1).run("", -1).run("x", -5000).run("", -1);
    }

    private static void callsByTheObject() {
        Session s = new Session();
        s.declare("B:A{Am()=t;An()=t.m();Ao(Bx)=x.n();}", 2);
        s.declare("C:B{Am()=*A();}", 3).declare("D:C{An()=*B();}", 4).declare("E:D{}", 5);
        s.run("*B().m()", 1).gave("B").run("*C().m()", 1).gave("A").run("*E().m()", 1).gave("A");
        s.run("*B().n()", 1).gave("B").run("*C().n()", 1).gave("A").run("*D().n()", 1).gave("B");
        s.run("((B)*C()).m()", 1).gave("A");
        s.run("*E().o(*B())", 1).gave("B").run("*B().o(*C())", 1).gave("A").run("*B().o(*E())", 1).gave("B");
        s.run("((B)*E()).o((C)*E())", 1).gave("B");
        s.declare("F:A{A x;A y;F s()=*F(t.y,t.x);A p(Aa,Ab,Ac)=*F(c,*F(a,b));}", 6);
        s.run("*F(*B(),*C()).s()", 1).gave("F(C,B)").run("*F(*B(),*C()).s().s().y", 1).gave("C");
        s.run("*F(*B(),*C()).p(*B(),*C(),*D())", 1).gave("F(D,F(B,C))");
        // the names of the caller are there again when a call has ended
        s.declare("G:F{A r(Aa)=*A();A q(Aa,Ab)=*F(*F(t.r(b),a),*F(t.p(b,b,b),b));}", 7);
        s.run("*G(*A(),*A()).q(*B(),*C())", 1).gave("F(F(A,B),F(F(C,F(C,C)),C))");
        s.run("*F(*D(),*G(*A(),*A()).q(*B(),*C()))", 1).gave("F(D,F(F(A,B),F(F(C,F(C,C)),C)))");
        s.run("*F(*D(),*F(*G(*A(),*A()).q(*B(),*C()),*B()).y)", 1).gave("F(D,B)");
    }

    private static void fromTheLeft() {
        Session s = new Session();
        s.declare("B:A{Am(Ax,Ay)=t;An()=t.n();}", 2);
        // what ends it is what comes first: the cast is stuck, or the fuel has ended
        s.run("*B().m((B)*A(),*B().n())", 0, 2).left(0);
        s.run("*B().m(*B().n(),(B)*A())", 0, 3).left(0);
        s.run("*B().m(*B().n(),(B)*A())", 5, 3).left(0);
        s.run("*B().m(*B().n(),(B)*A())", 40, 4).left(27);
        s.run("*B().m((B)*A(),*B().n())", 40, 2).left(40);
        s.run("((B)*A()).m(*B().n(),*A())", 40, 2).left(40);
        s.run("(B)*B().m(*A(),*A())", 40, 1).left(39);
        s.run("(B)(A)*B().m(*A(),(B)*A())", 40, 2).left(40);
    }

    private static void casts() {
        Session s = new Session();
        s.declare("B:A{Bm(Ax)=(B)x;}", 2).declare("C:B{}", 3).declare("D:C{}", 4).declare("E:A{}", 5);
        s.run("*B().m(*B())", 1).gave("B").run("*B().m(*D())", 1).gave("D").run("*B().m(*A())", 2).gave("");
        s.run("*B().m(*E())", 2).left(19);
        s.run("(C)*B().m(*D())", 1).gave("D").run("(D)*B().m(*C())", 2).run("(A)*D()", 1).gave("D");
        // only the class is asked for when it runs
        s.declare("F[X:A]:A{}", 6).declare("G[X:A]:F[X]{}", 7).declare("H:F[A]{}", 8);
        s.run("(H)(F[A])*G[A]()", 2).run("(G[A])(F[A])*H()", 2).run("(G[A])(F[A])*G[A]()", 1);
    }

    private static void fuel() {
        Session s = new Session();
        s.declare("B:A{Am()=t;An()=t.n();Bo(Ax)=t;}", 2);
        s.run("*B().m()", 0, 3).left(0).gave("").run("*B().m()", 1, 1).left(0).gave("B");
        s.run("*B()", 0, 1).left(0).gave("B").run("(B)*B()", 3, 1).left(3);
        s.run("*B().o(*B().m()).o(*B().m())", 4, 1).left(0);
        s.run("*B().o(*B().m()).o(*B().m())", 3, 3).left(0);
        s.run("*B().n()", 12, 3).left(0).run("*B().n()", 13, 4).left(0).run("*B().n()", 14, 4).left(1);
        s.run("*B()" + ".o(*A())".repeat(17), 40, 1).left(23);
        // a call costs when its expressions are done, so one that is stuck in them costs nothing
        s.run("*B().o((B)*A())", 5, 2).left(5);
    }

    private static void callsInOneAnother() {
        Session s = new Session();
        // each call of m goes down one field, so an object of depth k makes k + 1 calls in one another
        s.declare("B:A{Am()=*A();}", 2).declare("C:B{Bf;Am()=t.f.m();}", 3).declare("D:B{Bf;Am()=t;}", 4);
        s.declare("E:B{Bx;Ey()=*E(*C(*C(*C(*C(*C(t.x))))));}", 5);
        s.run("*E(*B()).y().y().x.m()", 40, 1).gave("A").left(27);
        s.run("*E(*C(*B())).y().y().x.m()", 40, 1).gave("A").left(26);
        s.run("*E(*C(*C(*B()))).y().y().x.m()", 40, 4).gave("").left(25);
        s.run("*E(*C(*C(*B()))).y().y().x.m()", 14, 3).left(0);
        s.run("*E(*C(*C(*B()))).y().y().x.m()", 15, 4).left(0);
        // in a call's expressions a call is not in it, and one behind another neither
        s.declare("F:A{Fm(Ax)=t;Fn()=t.m(t.m(t.m(t.m(t))));}", 6);
        s.run("*F()" + ".n()".repeat(8), 40, 1).left(0);
        s.run("*F().m(".repeat(1) + "*F().m(".repeat(6) + "*A()" + ")".repeat(7), 40, 1).left(33);
        // after a run that ended in the depth, the next one starts anew
        s.run("*E(*C(*C(*B()))).y().y().x.m()", 40, 4).run("*E(*C(*B())).y().y().x.m()", 40, 1).left(26);
    }

    /** However an earlier run ended, the next one finds nothing of it. */
    private static void laterRuns() {
        String[] endings = {"*A().f", "*B(x)", "*B(*A()", "*B().m(*B(),*A().f)", "*B().m(*B(),*B())", "*B().o((B)*A(),x)",
            "*B().o(*B(),(B)*A())"};
        for (String ending : endings) {
            Session s = new Session();
            s.declare("B:A{Bm(Bx,Ay)=t.m(x,y);Ao(Ax,Ay)=x;}", 2).declare("C:B{}", 3);
            int want = s.say(ending).x.run(40);
            for (int k = 0; k < 75; k++) {
                s.run(ending, 40, want);
            }
            s.run("*B().o(*B().o(*C(),*A()),*A())", 40, 1).gave("C").left(38);
        }
    }

    /** Texts of full length, as many as an object is used for: wrong ones leave room for the next. */
    private static void longRuns() {
        Session s = new Session();
        s.declare("B:A{Bm(Ax)=t;}", 2);
        for (int k = 0; k < 10; k++) {
            s.run("*A(t" + ",t".repeat(67) + ")", 40, -7000);
        }
        s.run("*B()" + ".m(*A())".repeat(17), 40, 1).gave("B").left(23);
        s = new Session();
        for (int k = 0; k < 10; k++) {
            s.declare("B:A{Am()=*A(t" + ",t".repeat(61) + ");}", -7000);
        }
        s.declare("B:A{Bm(Ax)=t;}", 2).run("*B()" + ".m(*A())".repeat(17), 40, 1).gave("B").left(23);
    }

    private static void leftAfterwards() {
        Session s = new Session();
        s.declare("B:A{Bm()=t;}", 2).left(0);
        s.run("*B().m()", 30, 1).left(29);
        s.run("*B(", 12, -4).left(29).run("x", 12, -5000).left(29).run("*B().m()", -3, -100000).left(29);
        // that was refused, so what was typed is still there
        s.declare("C:A{}", -1).left(29).declare("C:A{}", 3).left(29);
        s.run("(B)*A()", 8, 2).left(8).run("*B().m()", 0, 3).left(0);
    }
}
