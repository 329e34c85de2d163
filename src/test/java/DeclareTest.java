/** Promise 3: declare, and what makes a declaration wrong, in which order. */
public final class DeclareTest {
    public static void main(String[] args) {
        counts();
        typedIsTaken();
        head();
        goodTypes();
        ownClass();
        allLetters();
        deepTypes();
        fields();
        methods();
        overriding();
        overridingWithVariables();
        bodies();
        order();
        wrongIsNone();
        Session.end();
    }

    private static void counts() {
        Session s = new Session();
        // in any order: a class need not follow the one before it in the alphabet
        String[] names = {"H", "C", "B", "G", "D", "F", "E"};
        for (int i = 0; i < names.length; i++) {
            s.declare(names[i] + ":A{}", i + 2);
        }
        for (String name : names) {
            s.declare(name + ":A{}", -1000);
        }
        s.declare("A:B{}", -1000);
    }

    private static void typedIsTaken() {
        Session s = new Session();
        s.declare("B:A{", -5).declare("B:A{}", 2);
        s.declare("B:A{}", -1000).declare("", -1);
        s.declare("C:A{}", 3).declare("", -1).run("", -1);
    }

    private static void head() {
        Session s = new Session();
        s.declare("B[X:A,Y:A,X:A]:A{}", -1000);
        s.declare("B[X:A,Y:H,X:A]:H{}", -1000);
        s.declare("B[X:H]:A{}", -2000);
        s.declare("B[X:A]:H{}", -2000);
        s.declare("B[X:A[A]]:A{}", -2000);
        s.declare("B:A[A]{}", -2000);
        s.declare("B[X:A,Y:A]:A{}", 2);
        s.declare("C:B{}", -2000);
        s.declare("C:B[A]{}", -2000);
        s.declare("C:B[A,A,A]{}", -2000);
        s.declare("C:B[A,X]{}", -2000);
        s.declare("C:B[A,C]{}", -2000);
        s.declare("C[Z:A]:B[Z,B[Z,A]]{}", 3);
        s.declare("D[X:C[Y],Y:A]:A{}", 4);
        s.declare("E[X:C[Y]]:A{}", -2000);
    }

    private static void goodTypes() {
        Session s = new Session();
        s.declare("B:A{}", 2).declare("C:B{}", 3);
        s.declare("D[X:B]:A{}", 4);
        s.declare("E:D[A]{}", -2000);
        s.declare("E:D[D[B]]{}", -2000);
        s.declare("E[X:A]:D[X]{}", -2000);
        s.declare("E[X:C]:D[X]{}", 5);
        // a bound may use the variables: the types stand for them in it
        s.declare("F[X:A,Y:D[X]]:A{}", -2000);
        s.declare("F[X:B,Y:D[X]]:A{}", 6);
        s.declare("G:F[B,D[C]]{}", -2000);
        s.declare("G:F[C,D[B]]{}", -2000);
        s.declare("G:F[C,E[C]]{}", 7);
        s.declare("H:F[B,E[C]]{}", -2000);
        // a variable lies in what its bound lies in, but never in another variable
        s.declare("H[X:C,Y:E[X]]:F[X,Y]{}", 8);
    }

    private static void ownClass() {
        Session s = new Session();
        s.declare("B:B{}", -2000);
        s.declare("B[X:A]:B[X]{}", -2000);
        s.declare("C[X:A]:A{}", 2);
        s.declare("B:C[B]{}", -2000);
        s.declare("B:C[C[B]]{}", -2000);
        // in its bounds and members it is there, below what stands behind its colon
        s.declare("B[X:B[X]]:A{Xf;B[X]g;}", 3);
        s.declare("D[X:C[D[X]]]:A{}", 4);
        s.declare("E[X:A]:C[X]{E[E[X]]f;C[C[E[A]]]g;}", 5);
        s.declare("F[X:F[X]]:E[X]{}", 6);
        s.declare("G[X:B[G[X]]]:A{}", -2000);
        s.declare("G[X:G[X,X]]:A{}", -2000);
        s.declare("G[X:G]:A{}", -2000);
        s.declare("G:A{B[G]f;}", -2000);
    }

    private static void allLetters() {
        Session s = new Session();
        for (char variable = 'S'; variable <= 'Z'; variable++) {
            char name = (char) ('B' + (variable - 'S'));
            String bounds = "[" + variable + ":A]";
            if (name <= 'H') {
                s.declare(name + bounds + ":A{" + variable + "f;" + variable + "m(" + variable + "x)=x;}", name - 'A' + 1);
                s.run("*" + name + "[A](*A()).m(*A())", 1).gave("A");
            }
        }
        new Session().declare("B[Z:A]:A{Zf;Zm()=t.f;Sn[S:A](Sx)=x;}", 2);
        for (char name = 'a'; name <= 'z'; name++) {
            int fieldAnswer = name == 't' ? -3000 : 2;
            new Session().declare("B:A{A" + name + ";}", fieldAnswer);
            new Session().declare("B:A{Am(A" + name + ")=" + name + ";}", fieldAnswer);
            new Session().declare("B:A{A" + name + "()=t." + name + "();}", 2);
        }
    }

    /** Eight brackets in one another are right, not only read. */
    private static void deepTypes() {
        Session s = new Session();
        s.declare("B[X:A]:A{}", 2);
        s.declare("C:" + "B[".repeat(8) + "A" + "]".repeat(8) + "{}", 3);
        s.declare("D:" + "B[".repeat(8) + "E" + "]".repeat(8) + "{}", -2000);
        s.declare("D[Y:A]:" + "B[".repeat(8) + "Y" + "]".repeat(8) + "{}", 4);
        s.run("(" + "B[".repeat(7) + "A" + "]".repeat(7) + ")*A()", -10000);
        s.run("*" + "B[".repeat(8) + "C" + "]".repeat(8) + "()", 1);
        s.run("*D[C]()", 1).gave("D");
        s.declare("E:A{" + "B[".repeat(7) + "A" + "]".repeat(7) + "f;}", 5);
        s.run("*E(*" + "B[".repeat(7) + "A" + "]".repeat(7) + "())", 1).gave("E(B)");
        s.run("*E(*" + "B[".repeat(6) + "A" + "]".repeat(6) + "())", -9000);
        s.run("*E(*" + "B[".repeat(7) + "C" + "]".repeat(7) + "())", -9000);
        s.declare("F[X:A]:A{" + "B[".repeat(7) + "X" + "]".repeat(7) + "f;}", 6);
        s.run("*F[C](*" + "B[".repeat(7) + "C" + "]".repeat(7) + "())", 1).gave("F(B)");
        s.run("*F[C](*" + "B[".repeat(7) + "A" + "]".repeat(7) + "())", -9000);
    }

    private static void fields() {
        Session s = new Session();
        s.declare("B:A{Hf;}", -2000);
        s.declare("B:A{Xf;}", -2000);
        s.declare("B[X:A]:A{Xf;X[A]g;}", -14);
        s.declare("B:A{Af;Bf;}", -3000);
        s.declare("B:A{At;}", -3000);
        s.declare("B:A{Aa;Ab;Ac;Ad;Ae;Af;Ag;}", -3000);
        s.declare("B:A{Aa;Ab;Ac;Ad;}", 2);
        s.declare("C:B{Ad;}", -3000);
        s.declare("C:B{Ae;Af;Ag;}", -3000);
        s.declare("C:B{Ae;Af;}", 3);
        s.declare("D:C{Ag;}", -3000);
        s.declare("D:C{Aa;}", -3000);
        s.declare("D:C{}", 4);
        s.declare("E:D{Af;}", -3000);
        // a method may have a field's name, and be t
        s.declare("E:D{Aa()=t.a;At()=t;}", 5);
    }

    private static void methods() {
        Session s = new Session();
        s.declare("B[X:A]:A{Am[X:A]()=t;}", -1000);
        s.declare("B:A{Am[X:A,X:A]()=t;}", -1000);
        s.declare("B:A{Am[X:H]()=t;}", -2000);
        s.declare("B:A{Hm()=t;}", -2000);
        s.declare("B:A{Xm()=t;}", -2000);
        s.declare("B:A{Am(Xx)=t;}", -2000);
        s.declare("B:A{Am(Ax,Hy)=t;}", -2000);
        s.declare("B:A{Am[X:A]()=t;Xn()=t.n();}", -2000);
        s.declare("B:A{Am[X:A]()=t;Xf;}", -2000);
        s.declare("B:A{Am(Ax,Ay,Ax)=x;}", -3000);
        s.declare("B:A{Am(Ax,At)=x;}", -3000);
        s.declare("B:A{Am()=t;Bm(Ax)=t;}", -3000);
        // its variables are in scope in its bounds, result and parameters, and may come again in another method
        s.declare("B[X:A]:A{Ym[Y:B[Y]](Yx)=x;Zn[Z:A,Y:B[Z]](Yx,Zy)=y;}", 2);
        s.declare("C:A{Xm[X:A,Y:B[X]](Xx)=x;}", 3);
        s.declare("D:A{Am[X:B[X,X]]()=t;}", -2000);
    }

    private static void overriding() {
        Session s = new Session();
        s.declare("B:A{Am()=t;Bn(Bx,Ay)=x;}", 2);
        s.declare("C:B{Am(Ax)=t;}", -4000);
        s.declare("C:B{Am[X:A]()=t;}", -4000);
        s.declare("C:B{Bn(Bx)=x;}", -4000);
        s.declare("C:B{Bn(Ax,Ay)=t;}", -4000);
        s.declare("C:B{Bn(Bx,By)=x;}", -4000);
        s.declare("C:B{An(Bx,Ay)=x;}", -4000);
        // other names of the parameters, and a lower result
        s.declare("C:B{Cn(Ba,Ab)=t;Bm()=t;}", 3);
        // what is nearest above counts, at any height
        s.declare("D:C{Bn(Bx,Ay)=x;}", -4000);
        s.declare("D:C{}", 4);
        s.declare("E:D{Am()=t;}", -4000);
        s.declare("E:D{Dm()=(D)t;}", 5);
    }

    private static void overridingWithVariables() {
        Session s = new Session();
        s.declare("B[X:A]:A{Xf;Xm(Xx)=x;Yn[Y:A,Z:B[Y]](Xx,Yy,Zz)=y;}", 2);
        s.declare("C:A{}", 3);
        s.declare("D:B[C]{Cm(Ax)=t.f;}", -4000);
        s.declare("D:B[C]{Am(Cx)=x;}", -4000);
        s.declare("D:B[C]{Cm(Cx)=t.f;}", 4);
        // the variables are replaced in their order, even if the letters cross
        s.declare("E[Y:A]:B[Y]{Xn[X:A,Z:B[X]](Yx,Xy,Zz)=y;}", 5);
        s.declare("F[Y:A]:B[Y]{Zn[Z:A,X:B[Z]](Yx,Zy,Xz)=y;Ym(Yx)=x;}", 6);
        s.declare("G[Y:A]:B[Y]{Xn[Z:A,X:B[Z]](Yx,Zy,Xz)=z;}", -4000);
        s.declare("G[Y:A]:B[Y]{Zn[X:A,Z:B[X]](Yx,Xy,Zz)=z;}", -4000);
        s.declare("G[Y:A]:B[Y]{Xn[X:A,Z:B[Y]](Yx,Xy,Zz)=y;}", -4000);
        s.declare("G[Y:A]:B[Y]{Xn[X:C,Z:B[X]](Yx,Xy,Zz)=y;}", -4000);
        s.declare("G[Y:A]:B[Y]{Xn[X:A,Z:B[X]](Xx,Xy,Zz)=y;}", -4000);
        s.declare("G[Y:A]:B[Y]{Xn[X:A](Yx,Xy,Yz)=y;}", -4000);
        // the result lies in what is above: a variable may, by its bound
        s.declare("G[Y:A]:B[B[Y]]{B[Y]m(B[Y]x)=x;}", 7);
        s.declare("H[Y:C]:B[C]{Ym(Cx)=x;}", -11000);
        s.declare("H[Y:C]:B[C]{Ym(Cx)=t.m(x);}", 8);
    }

    private static void bodies() {
        Session s = new Session();
        s.declare("B:A{Bm()=*A();}", -11000);
        s.declare("B:A{Am()=x;}", -5000);
        s.declare("B:A{Am()=t.f;}", -6000);
        s.declare("B:A{Am()=t.n();}", -7000);
        s.declare("B:A{Am()=*H();}", -8000);
        s.declare("B:A{Bm(Bx)=t.m(*A());}", -9000);
        s.declare("B[X:A]:A{Am(Ax)=(B[X])x;}", -10000);
        // members further down are there in all expressions
        s.declare("B:A{Am()=t.n(t.f);An(Ax)=x;Af;}", 2);
        // a parameter hides nothing, and t is the class with its own variables
        s.declare("C[X:A,Y:A]:A{C[X,Y]m()=t;}", 3);
        s.declare("D[X:A,Y:A]:A{D[Y,X]m()=t;}", -11000);
        s.declare("D[X:B]:A{Xf;Am()=t.f.m();Bn()=t.f;Xo(Xx)=t.f;Xp()=t.n();}", -11000);
        s.declare("D[X:B]:A{Xf;Am()=t.f.m();Bn()=t.f;Xo(Xx)=t.f;}", 4);
        s.declare("E:A{Ym[X:A,Y:A](Xx)=x;}", -11000);
        s.declare("E:A{Bm[X:B](Xx)=x;Am(Ax)=x;}", -3000);
        s.declare("E:A{Bm[X:B](Xx)=x;An[X:B](Xx)=x.f;}", 5);
        // names of one method are not those of another
        s.declare("F:A{Am(Ax)=x;An()=x;}", -5000);
        s.declare("F:A{Af;Am()=f;}", -5000);
    }

    /** Head, then all members, then all expressions; within them from the left. */
    private static void order() {
        Session s = new Session();
        s.declare("B[X:H,X:A]:H{Hf;}", -1000);
        s.declare("A:H{}", -1000);
        s.declare("B[X:H]:A{At;}", -2000);
        s.declare("B:A{At;Hf;}", -3000);
        s.declare("B:A{Hf;At;}", -2000);
        s.declare("B:A{Ht;}", -2000);
        s.declare("B:A{Am()=y;At;}", -3000);
        s.declare("B:A{Am[X:A,X:H](Ax,Ax)=t;}", -1000);
        s.declare("B:A{Am[X:H](Ax,Ax)=t;}", -2000);
        s.declare("B:A{Am(Ax,Ax)=t;Hf;}", -3000);
        s.declare("B:A{Am()=t.f;An()=y;}", -6000);
        s.declare("B:A{Bm()=*A();An()=y;}", -11000);
        s.declare("B:A{Am()=t;Bn()=y;}", -5000);
        s.declare("B:A{Am()=t;}", 2);
        s.declare("C:B{Hm(Ax)=t;}", -2000);
        s.declare("C:B{Am(Ax,Ax)=t;}", -3000);
        s.declare("C:B{Am(Ax)=y;}", -4000);
        s.declare("C:B{Am()=t;Am(Ax)=t;}", -3000);
        s.declare("C:B{Am(Ax)=t;Hf;}", -4000);
        s.declare("C:B{Am()=y;An[X:A,X:A]()=t;}", -1000);
    }

    private static void wrongIsNone() {
        Session s = new Session();
        s.declare("B:A{Af;Am()=t;Bn()=*A();}", -11000);
        s.fields(1, -1).method(1, 'm', -1).run("*B(*A())", -8000);
        s.declare("C:B{}", -2000);
        s.declare("B:A{Ag;}", 2).fields(1, 1).method(1, 'm', -1);
        s.declare("B:A{Ah;Ai;}", -1000).fields(1, 1).run("*B(*A()).g", 1).run("*B(*A()).h", -6000);
        s.declare("B:A{Ah", -7).fields(1, 1);
    }
}
