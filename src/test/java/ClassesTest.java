/** Promises 8 and 9: fields and method. */
public final class ClassesTest {
    public static void main(String[] args) {
        fieldCounts();
        methodOwners();
        byLetter();
        Session.end();
    }

    private static void fieldCounts() {
        Session s = new Session();
        s.declare("B:A{Aa;}", 2).declare("C[X:A]:B{Xb;Xc;}", 3).declare("D:C[A]{Am()=t;}", 4);
        s.declare("E:D{Ad;Ae;Af;}", 5).declare("F:A{}", 6);
        s.fields(0, 0).fields(1, 1).fields(2, 3).fields(3, 3).fields(4, 6).fields(5, 0);
        for (int c : new int[] {6, 7, 8, 9, -1, 32, 65, Integer.MIN_VALUE, Integer.MAX_VALUE}) {
            s.fields(c, -1);
        }
        s.declare("G:E{Ag;}", -3000).fields(6, -1);
    }

    private static void methodOwners() {
        Session s = new Session();
        s.declare("B:A{Aa()=t;Am()=t;Az()=t;At()=t;Af;}", 2).declare("C:B{Am()=t;An()=t;}", 3);
        s.declare("D:C{}", 4).declare("E:D{Am()=t;}", 5).declare("F:A{An()=t;}", 6);
        s.method(1, 'a', 1).method(1, 'm', 1).method(1, 'n', -1).method(1, 'z', 1).method(1, 't', 1).method(1, 'f', -1);
        s.method(2, 'a', 1).method(2, 'm', 2).method(2, 'n', 2);
        s.method(3, 'a', 1).method(3, 'm', 2).method(3, 'n', 2).method(3, 'b', -1);
        s.method(4, 'a', 1).method(4, 'm', 4).method(4, 'n', 2).method(5, 'n', 5).method(5, 'm', -1);
        for (int c : new int[] {-1, 6, 7, 8, 9, Integer.MIN_VALUE, Integer.MAX_VALUE}) {
            s.method(c, 'm', -1);
        }
        for (int m : new int[] {-1, 26, 97, Integer.MIN_VALUE, Integer.MAX_VALUE}) {
            Session.due("method(1, " + m + ")", s.x.method(1, m), -1);
        }
    }

    /** Classes are numbered by their letters, whatever the order they were declared in. */
    private static void byLetter() {
        Session s = new Session();
        s.declare("H:A{Aa;Ab;Am()=t;}", 2).declare("C:H{Ac;}", 3);
        s.fields(7, 2).fields(2, 3).fields(1, -1).fields(3, -1);
        s.method(7, 'm', 7).method(2, 'm', 7).method(1, 'm', -1);
    }
}
