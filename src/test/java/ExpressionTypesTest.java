/** Promise 4, and the last step of promise 3: the type of an expression, and what is wrong in it. */
public final class ExpressionTypesTest {
    public static void main(String[] args) {
        names();
        fields();
        calls();
        callsFilledIn();
        objects();
        castsUpAndDown();
        castsAndVariables();
        bounds();
        order();
        hugeTypes();
        Session.end();
    }

    private static void names() {
        Session s = new Session();
        for (char c = 'a'; c <= 'z'; c++) {
            s.run("" + c, -5000);
        }
        s.run("(A)t", -5000).run("x.f", -5000).run("t.m()", -5000).run("*A(x)", -7000);
    }

    private static void fields() {
        Session s = new Session();
        s.declare("B[X:A]:A{Xf;}", 2).declare("C[Y:A]:B[B[Y]]{Yg;}", 3).declare("D:C[D]{}", -2000);
        s.declare("D:A{}", 4);
        s.run("*A().f", -6000);
        s.run("*B[A](*A()).g", -6000);
        s.run("*B[A](*A()).f.f", -6000);
        s.run("*C[D](*B[D](*D()),*D()).f.f", 1).gave("D");
        s.run("*C[D](*B[D](*D()),*D()).g", 1).gave("D");
        s.run("*C[D](*D(),*D())", -9000);
        s.run("*C[D](*B[A](*D()),*D())", -9000);
        // the field of what is above, filled in: its type is B[D], so it may be given where that is awaited
        s.run("*B[B[D]](*C[D](*B[D](*D()),*D()).f)", 1).gave("B(B(D))");
        s.run("*B[D](*C[D](*B[D](*D()),*D()).f)", -9000);
    }

    private static void calls() {
        Session s = new Session();
        s.declare("B:A{Bm(Ax)=t;Xn[X:B](Xx)=x;Yo[X:A,Y:A](Xx,Yy)=y;}", 2).declare("C:B{}", 3);
        s.run("*A().m(*A())", -7000);
        s.run("*B().m()", -7000);
        s.run("*B().m(*A(),*A())", -7000);
        s.run("*B().m[A](*A())", -7000);
        s.run("*B().n(*B())", -7000);
        s.run("*B().n[B,B](*B())", -7000);
        s.run("*B().f", -6000);
        s.run("*B().n[H](*B())", -8000);
        s.run("*B().n[X](*B())", -8000);
        s.run("*B().n[A](*B())", -8000);
        s.run("*B().n[B[A]](*B())", -8000);
        s.run("*B().n[B](*A())", -9000);
        s.run("*B().n[C](*B())", -9000);
        s.run("*B().n[B](*C()).m(*A())", 1).gave("C");
        s.run("*C().n[C](*C()).n[C](*C())", 1).gave("C");
        s.run("*C().m(*C()).n[C](*C())", 1).gave("C");
        s.run("*C().o[A,C](*B(),*C()).m(*A())", 1).gave("C");
        s.run("*C().o[C,A](*B(),*C())", -9000);
        s.run("*C().o[C,A](*C(),*B()).m(*A())", -7000);
    }

    /** What is awaited and given is filled in with the types of the object's class and those of the call. */
    private static void callsFilledIn() {
        Session s = new Session();
        s.declare("B[X:A]:A{Xf;B[Y]p[Y:A](Yy)=*B[Y](y);Yq[Y:B[X]](Yy)=y;Xr(Xx)=x;}", 2);
        s.declare("C[Y:A]:B[B[Y]]{}", 3).declare("D:A{}", 4);
        s.run("*B[A](*D()).p[D](*D()).f", 1).gave("D");
        s.run("*B[D](*D()).p[D](*D()).r(*D())", 1).gave("D");
        s.run("*B[D](*D()).p[A](*D()).r(*A())", 1).gave("A");
        s.run("*B[D](*D()).r(*A())", -9000);
        s.run("*B[D](*D()).q[B[D]](*B[D](*D())).f", 1).gave("D");
        s.run("*B[D](*D()).q[B[A]](*B[A](*D()))", -8000);
        s.run("*B[D](*D()).q[C[D]](*C[D](*B[D](*D())))", -8000);
        s.run("*B[B[D]](*B[D](*D())).q[C[D]](*C[D](*B[D](*D()))).f.f", 1).gave("D");
        // a method from above: the letters cross, for X there is B[Y] here and Y is the method's own
        s.run("*C[D](*B[D](*D())).r(*B[D](*D())).f", 1).gave("D");
        s.run("*C[D](*B[D](*D())).r(*D())", -9000);
        s.run("*C[D](*B[D](*D())).p[A](*D()).f", 1).gave("D");
        s.run("*C[D](*B[D](*D())).q[B[B[D]]](*C[D](*B[D](*D()))).f.f", 1).gave("D");
        s.run("*C[D](*B[D](*D())).q[B[D]](*B[D](*D()))", -8000);
    }

    private static void objects() {
        Session s = new Session();
        s.declare("B[X:B[X]]:A{}", 2).declare("C[X:A]:A{Xf;}", 3).declare("D:C[D]{}", -2000);
        s.declare("D:C[C[A]]{Ag;}", 4);
        s.run("*H()", -8000).run("*A[A]()", -8000).run("*C(*A())", -8000).run("*C[A,A](*A())", -8000);
        s.run("*C[X](*A())", -8000).run("*C[H](*A())", -8000).run("*B[A]()", -8000).run("*C[B[A]](*A())", -8000);
        s.run("*A(*A())", -7000).run("*C[A]()", -7000).run("*C[A](*A(),*A())", -7000);
        s.run("*D(*A())", -7000).run("*D(*A(),*A())", -9000).run("*D(*C[A](*D(x)),*A())", -7000);
        s.run("*D(*C[A](*A()),*A())", 1).gave("D(C(A),A)");
        s.run("*C[D](*C[A](*A()))", -9000);
        s.run("*C[C[A]](*D(*C[A](*A()),*A()))", -9000);
        s.run("*C[C[C[A]]](*D(*C[A](*A()),*A()))", 1).gave("C(D(C(A),A))");
    }

    private static void castsUpAndDown() {
        Session s = new Session();
        s.declare("B:A{}", 2).declare("C:B{}", 3).declare("D:A{}", 4).declare("E[X:A]:A{}", 5);
        s.run("(H)*A()", -8000).run("(E)*A()", -8000).run("(A[A])*A()", -8000).run("(E[X])*A()", -8000);
        s.run("(A)*C()", 1).run("(B)*C()", 1).run("(C)*C()", 1).run("(C)(B)(A)*C()", 1).run("(C)(A)*C()", 1);
        s.run("(D)*B()", -10000).run("(B)*D()", -10000).run("(D)(A)*B()", 2).run("(B)(A)*D()", 2);
        s.run("(C)*B()", 2).run("(B)*A()", 2).run("(C)*A()", 2);
        s.run("(E[A])*E[A]()", 1).run("(A)*E[A]()", 1);
        s.run("(E[B])*E[A]()", -10000).run("(E[A])*E[B]()", -10000).run("(E[A])*A()", -10000);
        s.run("(E[A])(A)*E[A]()", -10000);
        // the type of a cast is the one that it asks for
        s.declare("F:A{Af;Bm(Bx)=x;}", 6);
        s.run("(A)*F(*A()).f", 1).run("((A)*F(*A())).f", -6000);
        s.run("*F(*A()).m((B)(A)*C())", 1).gave("C");
        s.run("*F(*A()).m((A)*C())", -9000);
    }

    /** Down only if each class on the way has all its variables in what it is below. */
    private static void castsAndVariables() {
        Session s = new Session();
        s.declare("B[X:A]:A{}", 2).declare("C[X:A]:B[X]{}", 3).declare("D[X:A,Y:A]:B[B[X]]{}", 4);
        s.declare("E:C[A]{}", 5).declare("F[X:A,Y:A]:B[D[Y,X]]{}", 6).declare("G[X:A]:E{}", 7).declare("H[X:A]:F[A,X]{}", 8);
        s.run("(C[A])(B[A])*C[A]()", 1).run("(C[E])(B[A])*C[A]()", -10000);
        s.run("(D[A,A])(B[B[A]])*D[A,A]()", -10000);
        s.run("(E)(B[A])*E()", 1).run("(E)(C[A])*E()", 1).run("(E)(B[A])*C[A]()", 2).run("(E)(B[E])*C[E]()", -10000);
        s.run("(E)(A)*E()", -10000);
        s.run("(F[A,E])(B[D[E,A]])*F[A,E]()", 1).run("(F[E,A])(B[D[E,A]])*F[A,E]()", -10000);
        s.run("(G[A])(E)*G[A]()", -10000).run("(G[A])(B[A])*G[A]()", -10000).run("(E)*G[A]()", 1);
        s.run("(H[E])(F[A,E])*H[E]()", 1).run("(H[E])(B[D[E,A]])*H[E]()", 1).run("(H[E])(B[D[E,A]])*F[A,E]()", 2);
        s.run("(H[E])(A)*H[E]()", -10000);
    }

    /** What is before a point, and what is cast, counts by its bound. */
    private static void bounds() {
        Session s = new Session();
        s.declare("B:A{Af;Bm()=t;}", 2).declare("C:B{Cm()=t;}", 3);
        s.declare("D[X:C]:A{Xv;Aa()=t.v.f;Cb()=t.v.m();Ac()=(A)t.v;Bd()=(B)t.v;}", 4);
        s.declare("E[X:B]:A{Xv;Cb()=(C)t.v;Cc()=t.v;}", -11000);
        s.declare("E[X:B]:A{Xv;Cb()=(C)t.v;Xc()=t.v.m();}", -11000);
        s.declare("E[X:B]:A{Xv;Ac()=t.v.g;}", -6000);
        s.declare("E[X:B]:A{Xv;Ac()=t.v.n();}", -7000);
        s.declare("E[X:A]:A{Xv;Ac()=t.v.f;}", -6000);
        s.declare("E[X:D[C]]:A{Xv;C m[Y:X](Yy)=y;}", -22);
        s.declare("E[X:B]:A{Xv;Cb()=(C)t.v;Am[Y:C](Yy)=y.m().f;}", 5);
        s.run("*D[C](*C(*A())).b()", 1).gave("C(A)");
        s.run("*E[C](*C(*A())).b()", 1).gave("C(A)");
        s.run("*E[B](*B(*A())).b()", 2).gave("");
        s.run("*E[B](*B(*A())).m[C](*C(*B(*A())))", 1).gave("B(A)");
        s.declare("F[X:B]:A{Xv;D[X]m()=*D[X](t.v);}", -2000);
        s.declare("F[X:B]:A{Xv;Am()=*D[X](t.v);}", -8000);
        s.declare("F[X:C]:A{Xv;D[X]m()=*D[X](t.v);D[C]n()=*D[C](t.v);D[X]o()=t.n();}", -11000);
        s.declare("F[X:C]:A{Xv;D[X]m()=*D[X](t.v);D[C]n()=*D[C](t.v);}", 6);
    }

    /** The first thing that is wrong, from the left, inside first. */
    private static void order() {
        Session s = new Session();
        s.declare("B:A{Af;Bg;Bm(Bx,Ay)=t;Xn[X:B](Xx)=x;}", 2);
        s.run("x.g.m()", -5000).run("*B(x).m()", -7000).run("*A().g.m(x)", -6000).run("*H(x)", -8000);
        s.run("*A().n[H](x)", -7000).run("*A().m[H]()", -7000);
        s.run("*B(*A(),*A()).n[H](x)", -9000);
        s.run("*B(x,*A())", -5000).run("*B(*A(),x.f)", -5000).run("*B(*A(),*A())", -9000);
        s.declare("C:B{Am(Bx,Ay)=t;}", -4000);
        s.declare("C:A{Am(Bx)=x.m(*A(),z);}", -9000);
        s.declare("C:A{Am(Bx)=x.m(x.z,*A());}", -6000);
        s.declare("C:A{Am(Bx)=x.n[A](z);}", -8000);
        s.declare("C:A{Am(Bx)=x.n(z);}", -7000);
        s.declare("C:A{Am(Bx)=z.n[A](z);}", -5000);
        s.declare("C:A{Am(Bx)=(H)z;}", -5000);
        s.declare("C:A{Am(Bx)=(H)x;}", -8000);
        s.declare("C:A{Am(Bx)=(H)(C)x;}", -10000);
        s.declare("C:A{Am(Bx)=(C)(H)x;}", -8000);
        s.declare("C:A{Am(Bx)=*H(z);}", -8000);
        s.declare("C:A{Am(Bx)=*B(z);}", -7000);
        s.declare("C:A{Am(Bx)=*B(x,x.m(x,x.q));}", -6000);
        s.declare("C:A{Am(Bx)=*B(x,x.m(x,x.f)).f.f;}", -6000);
        s.declare("C:A{Am(Bx)=*B(x,x.m(x,x.f)).g.f;}", 3);
    }

    /** Types that would be far too large to be written out must not take any longer. */
    private static void hugeTypes() {
        Session s = new Session();
        s.declare("B[X:A,Y:A,Z:A]:A{}", 2).declare("C[X:A]:A{Xf;C[B[X,X,X]]w()=t.w();}", 3);
        s.run("*C[A](*A())" + ".w()".repeat(32), 40, 4);
        s.run("*C[A](*A())" + ".w()".repeat(31) + ".g", 40, -6000);
        s.run("(A)*C[A](*A())" + ".w()".repeat(31), 40, 4);
        s.run("(C[A])*C[A](*A())" + ".w()".repeat(30), 40, -10000);
        s.declare("D[X:A]:A{D[B[X,X,X]]w()=" + "t" + ".w()".repeat(25) + ";}", -11000);
        s.declare("D[X:A]:C[X]{A u()=" + "t" + ".w()".repeat(25) + ";}", 4);
        manyTypes();
    }

    /** Each call makes some thirty types that were not there before. */
    private static void manyTypes() {
        Session s = new Session();
        s.declare("B[X:A,Y:A,Z:A]:A{}", 2).declare("C[X:A]:A{}", 3).declare("D[X:A]:A{}", 4).declare("E[X:A]:A{}", 5);
        String three = "B[C[C[C[C[X]]]],C[D[D[D[X]]]],D[E[E[E[X]]]]]";
        String more = "B[D[C[D[X]]],E[C[E[X]]],B[E[D[C[X]]],C[E[D[X]]],D[X]]]";
        s.declare("F[X:A]:A{F[B[" + three + "," + more + ",X]]w()=t.w();}", 6);
        for (int k = 0; k < 3; k++) {
            s.run("*F[A]()" + ".w()".repeat(33), 40, 4).left(27);
            s.run("*F[A]()" + ".w()".repeat(32) + ".x", 40, -6000);
        }
        s.run("(F[A])*F[A]()", 1).gave("F");
        s.declare("G:F[C[A]]{}", 7).run("(A)*G()" + ".w()".repeat(33), 40, 4);
    }
}
