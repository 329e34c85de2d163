/** Promise 1: only the class A; nothing is typed. */
public final class NewObjectTest {
    public static void main(String[] args) {
        onlyA();
        nothingIsTyped();
        nothingHasRun();
        objectsAreApart();
        Session.end();
    }

    private static void onlyA() {
        Session s = new Session();
        s.fields(0, 0);
        for (int c = 1; c < 8; c++) {
            s.fields(c, -1);
        }
        for (char m = 'a'; m <= 'z'; m++) {
            s.method(0, m, -1);
        }
        s.run("*A()", 1).gave("A");
        s.run("*B()", -8000);
        s.declare("B:A{}", 2);
        s.declare("A:B{}", -1000);
    }

    private static void nothingIsTyped() {
        new Session().declare("", -1);
        new Session().run("", 0, -1);
    }

    private static void nothingHasRun() {
        new Session().gave("").left(0);
        Session.due("at(0)", new BoundedTypes().at(0), -1);
    }

    private static void objectsAreApart() {
        Session one = new Session();
        one.declare("B:A{Af;}", 2).run("*B(*A())", 7, 1);
        Session other = new Session();
        other.fields(1, -1).gave("").left(0).declare("C:A{}", 2);
        one.fields(1, 1).fields(2, -1).gave("B(A)").left(7);
    }
}
