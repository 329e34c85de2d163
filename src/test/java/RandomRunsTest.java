import java.util.Map;
import java.util.Random;
import java.util.TreeMap;

/** Compares the program with the plain model on many runs of made-up calls, the same ones each time. */
public final class RandomRunsTest {
    private static final int SESSIONS = 12000;
    private static final Map<String, Integer> seen = new TreeMap<>();
    private static int wrong;

    private static void due(long session, String call, int got, int want) {
        if (got != want) {
            wrong++;
            if (wrong < 30) {
                System.out.println("session " + session + ": " + call + " answered " + got + ", due is " + want);
            }
        }
    }

    private static void count(String call, int answer) {
        boolean isFault = answer < 0 && answer % 1000 != 0;
        seen.merge(call + " " + (isFault ? "fault" : answer > 1 && call.equals("declare") ? "done" : answer), 1, Integer::sum);
    }

    private static boolean enter(BoundedTypes x, PlainModel model, long session, String text) {
        for (int i = 0; i < text.length(); i += 4) {
            int n = Math.min(4, text.length() - i);
            int word = 0;
            for (int k = 0; k < n; k++) {
                word = word << 8 | text.charAt(i + k);
            }
            boolean got = x.type(word, n);
            due(session, "type of " + text, got ? 1 : 0, model.type(word, n) ? 1 : 0);
        }
        return text.length() <= 140;
    }

    private static void look(BoundedTypes x, PlainModel model, long session, String after) {
        due(session, "length() after " + after, x.length(), model.length());
        for (int i = -1; i <= model.length(); i++) {
            due(session, "at(" + i + ") after " + after, x.at(i), model.at(i));
        }
        due(session, "left() after " + after, x.left(), model.left());
    }

    private static void lookAtClasses(BoundedTypes x, PlainModel model, long session, String after) {
        for (int c = -1; c <= 8; c++) {
            due(session, "fields(" + c + ") after " + after, x.fields(c), model.fields(c));
            for (int m = -1; m <= 26; m++) {
                due(session, "method(" + c + ", " + m + ") after " + after, x.method(c, m), model.method(c, m));
            }
        }
    }

    private static void session(long seed) {
        Random random = new Random(seed);
        BoundedTypes x = new BoundedTypes();
        PlainModel model = new PlainModel();
        RandomTexts texts = new RandomTexts(random, model, (int) (seed % 4) * 2);
        for (int i = 0; i < 30; i++) {
            boolean declares = random.nextInt(i < 12 ? 3 : 8) > 0 == i < 12;
            String text = declares ? texts.declaration() : texts.expression();
            if (!enter(x, model, seed, text) && random.nextBoolean()) {
                continue;
            }
            if (declares) {
                int want = model.declare();
                due(seed, "declare " + text, x.declare(), want);
                count("declare", want);
                lookAtClasses(x, model, seed, text);
            } else {
                int fuel = random.nextInt(random.nextInt(4) == 0 ? 45 : 10) - 1;
                int want = model.run(fuel);
                due(seed, "run(" + fuel + ") " + text, x.run(fuel), want);
                count("run", want);
                look(x, model, seed, text);
            }
        }
    }

    public static void main(String[] args) {
        for (long seed = 1; seed <= SESSIONS && wrong < 100; seed++) {
            session(seed);
        }
        System.out.println(seen);
        System.out.println(wrong == 0 ? "all answers are as due" : wrong + " answers are not as due");
        if (wrong != 0) {
            System.exit(1);
        }
    }
}
