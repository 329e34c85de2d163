/** An object under test: types whole texts into it, and prints every call whose answer is not the one that is due. */
final class Session {
    private static int wrong;
    private static int asked;

    final BoundedTypes x = new BoundedTypes();

    static void due(String call, long got, long want) {
        asked++;
        if (got != want) {
            wrong++;
        }
        if (got != want && wrong <= 40) {
            System.out.println(call + " answered " + got + ", due is " + want);
        }
    }

    static void due(String call, boolean got, boolean want) {
        due(call, got ? 1 : 0, want ? 1 : 0);
    }

    /** To be called at the end of each test's main. */
    static void end() {
        System.out.println(wrong == 0 ? asked + " answers, all as due" : wrong + " answers are not as due");
        if (wrong != 0 || asked == 0) {
            System.exit(1);
        }
    }

    static int word(String text) {
        int word = 0;
        for (int k = 0; k < text.length(); k++) {
            word = word << 8 | text.charAt(k);
        }
        return word;
    }

    Session say(String text) {
        for (int i = 0; i < text.length(); i += 4) {
            String piece = text.substring(i, Math.min(i + 4, text.length()));
            due("type of '" + piece + "' in " + text, x.type(word(piece), piece.length()), true);
        }
        return this;
    }

    Session declare(String text, int want) {
        say(text);
        due("declare() of " + text, x.declare(), want);
        return this;
    }

    Session run(String text, int fuel, int want) {
        say(text);
        due("run(" + fuel + ") of " + text, x.run(fuel), want);
        return this;
    }

    Session run(String text, int want) {
        return run(text, 20, want);
    }

    /** The text of the value of the last run; it must be there whole, and nothing behind it. */
    Session gave(String want) {
        due("length() for " + want, x.length(), want.length());
        due("at(-1) for " + want, x.at(-1), -1);
        for (int i = 0; i < want.length(); i++) {
            due("at(" + i + ") for " + want, x.at(i), want.charAt(i));
        }
        due("at(" + want.length() + ") for " + want, x.at(want.length()), -1);
        return this;
    }

    Session left(int want) {
        due("left()", x.left(), want);
        return this;
    }

    Session fields(int c, int want) {
        due("fields(" + c + ")", x.fields(c), want);
        return this;
    }

    Session method(int c, char name, int want) {
        due("method(" + c + ", " + name + ")", x.method(c, name - 97), want);
        return this;
    }
}
