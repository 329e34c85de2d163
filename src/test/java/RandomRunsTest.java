import java.util.Map;
import java.util.Random;
import java.util.TreeMap;

/** Promises 1 to 9: compares the program with the plain model on many made-up runs, the same ones each time. */
public final class RandomRunsTest {
    private static final int SESSIONS = 12000;
    private static final int WILD_SESSIONS = 2000;
    /** Each of these must have come up at least so often, or the runs prove too little. */
    private static final int OFTEN = 50;
    private static final Map<String, Integer> seen = new TreeMap<>();
    private static int wrong;

    private static void due(long session, String call, int got, int want) {
        if (got != want) {
            wrong++;
            if (wrong < 30) {
                System.out.println("session " + session + ": " + call + " answered " + got + ", due is " + want);
            }
        }
    }

    private static void count(String call, int answer) {
        boolean isFault = answer < 0 && answer % 1000 != 0;
        seen.merge(call + " " + (isFault ? "fault" : answer > 1 && call.equals("declare") ? "done" : answer), 1, Integer::sum);
    }

    private static boolean enter(BoundedTypes x, PlainModel model, long session, String text) {
        for (int i = 0; i < text.length(); i += 4) {
            int n = Math.min(4, text.length() - i);
            int word = 0;
            for (int k = 0; k < n; k++) {
                word = word << 8 | text.charAt(i + k);
            }
            boolean got = x.type(word, n);
            due(session, "type of " + text, got ? 1 : 0, model.type(word, n) ? 1 : 0);
        }
        return text.length() <= 140;
    }

    private static void look(BoundedTypes x, PlainModel model, long session, String after) {
        due(session, "length() after " + after, x.length(), model.length());
        for (int i = -1; i <= model.length(); i++) {
            due(session, "at(" + i + ") after " + after, x.at(i), model.at(i));
        }
        due(session, "left() after " + after, x.left(), model.left());
    }

    private static void lookAtClasses(BoundedTypes x, PlainModel model, long session, String after) {
        for (int c = -1; c <= 8; c++) {
            due(session, "fields(" + c + ") after " + after, x.fields(c), model.fields(c));
            for (int m = -1; m <= 26; m++) {
                due(session, "method(" + c + ", " + m + ") after " + after, x.method(c, m), model.method(c, m));
            }
        }
    }

    private static void session(long seed) {
        Random random = new Random(seed);
        BoundedTypes x = new BoundedTypes();
        PlainModel model = new PlainModel();
        RandomTexts texts = new RandomTexts(random, model, (int) (seed % 4) * 2);
        for (int i = 0; i < 30; i++) {
            boolean declares = random.nextInt(i < 12 ? 3 : 8) > 0 == i < 12;
            String text = declares ? texts.declaration() : texts.expression();
            if (!enter(x, model, seed, text) && random.nextBoolean()) {
                continue;
            }
            if (declares) {
                int want = model.declare();
                due(seed, "declare " + text, x.declare(), want);
                count("declare", want);
                lookAtClasses(x, model, seed, text);
            } else {
                int fuel = random.nextInt(random.nextInt(4) == 0 ? 45 : 10) - 1;
                int want = model.run(fuel);
                due(seed, "run(" + fuel + ") " + text, x.run(fuel), want);
                count("run", want);
                look(x, model, seed, text);
            }
        }
    }

    /** All calls with any numbers, 512 of them; what is typed is mostly faulty, and soon. */
    private static void wildSession(long seed) {
        Random random = new Random(seed);
        BoundedTypes x = new BoundedTypes();
        PlainModel model = new PlainModel();
        String[] pieces = {"*A()", "B:A{", "A f;", "}", "(A)", "t.m(", ")", "=t;}", "*B(", "A m(", ",", "[X:A", "]:A{"};
        for (int i = 0; i < 512; i++) {
            int a = number(random);
            int b = number(random);
            String piece = pieces[random.nextInt(pieces.length)];
            switch (random.nextInt(12)) {
                case 0 -> due(seed, "declare()", x.declare(), model.declare());
                case 1 -> due(seed, "run(" + a + ")", x.run(a), model.run(a));
                case 2 -> due(seed, "length()", x.length(), model.length());
                case 3 -> due(seed, "at(" + a + ")", x.at(a), model.at(a));
                case 4 -> due(seed, "left()", x.left(), model.left());
                case 5 -> due(seed, "fields(" + a + ")", x.fields(a), model.fields(a));
                case 6 -> due(seed, "method(" + a + ", " + b + ")", x.method(a, b), model.method(a, b));
                case 7 -> due(seed, "type(" + a + ", " + b + ")", x.type(a, b) ? 1 : 0, model.type(a, b) ? 1 : 0);
                default -> enter(x, model, seed, piece);
            }
        }
    }

    private static int number(Random random) {
        return random.nextInt(4) == 0 ? random.nextInt() : random.nextInt(60) - 5;
    }

    private static void isCovered(String answer) {
        if (seen.getOrDefault(answer, 0) < OFTEN) {
            wrong++;
            System.out.println("too seldom due: " + answer);
        }
    }

    public static void main(String[] args) {
        for (long seed = 1; seed <= SESSIONS && wrong < 100; seed++) {
            session(seed);
        }
        for (long seed = 1; seed <= WILD_SESSIONS && wrong < 100; seed++) {
            wildSession(seed);
        }
        for (int code = 1; code <= 11; code++) {
            isCovered("declare " + -1000 * code);
        }
        for (int code = 5; code <= 10; code++) {
            isCovered("run " + -1000 * code);
        }
        for (String answer : new String[] {"declare done", "declare fault", "run fault", "run -100000",
            "run 1", "run 2", "run 3", "run 4"}) {
            isCovered(answer);
        }
        System.out.println(seen);
        System.out.println(wrong == 0 ? "all answers are as due" : wrong + " answers are not as due");
        if (wrong != 0) {
            System.exit(1);
        }
    }
}
