/** An object under test: types whole texts into it, and prints every call whose answer is not the one that is due. */
final class Session {
    private static int wrong;
    private static int asked;

    final BoundedTypes x = new BoundedTypes();
    /** How many calls were made, but for those that a test makes on x itself. */
    int calls;
    private String last = "";

    static void due(String call, long got, long want) {
        asked++;
        if (got != want) {
            wrong++;
        }
        if (got != want && wrong <= 40) {
            System.out.println(call + " answered " + got + ", due is " + want);
        }
    }

    static void due(String call, boolean got, boolean want) {
        due(call, got ? 1 : 0, want ? 1 : 0);
    }

    /** To be called at the end of each test's main. */
    static void end() {
        System.out.println(wrong == 0 ? asked + " answers, all as due" : wrong + " answers are not as due");
        if (wrong != 0 || asked == 0) {
            System.exit(1);
        }
    }

    static int word(String text) {
        int word = 0;
        for (int k = 0; k < text.length(); k++) {
            word = word << 8 | text.charAt(k);
        }
        return word;
    }

    Session say(String text) {
        for (int i = 0; i < text.length(); i += 4) {
            String piece = text.substring(i, Math.min(i + 4, text.length()));
            calls++;
            due("type of '" + piece + "' in " + text, x.type(word(piece), piece.length()), true);
        }
        return this;
    }

    Session declare(String text, int want) {
        say(text);
        calls++;
        last = " after " + text;
        due("declare() of " + text, x.declare(), want);
        return this;
    }

    Session run(String text, int fuel, int want) {
        say(text);
        calls++;
        last = " after " + text;
        due("run(" + fuel + ") of " + text, x.run(fuel), want);
        return this;
    }

    Session run(String text, int want) {
        return run(text, 20, want);
    }

    /** The text of the value of the last run; it must be there whole, and nothing behind it. */
    Session gave(String want) {
        length(want.length());
        at(-1, -1);
        for (int i = 0; i < want.length(); i++) {
            at(i, want.charAt(i));
        }
        return at(want.length(), -1);
    }

    Session length(int want) {
        calls++;
        due("length()" + last, x.length(), want);
        return this;
    }

    Session at(int i, int want) {
        calls++;
        due("at(" + i + ")" + last, x.at(i), want);
        return this;
    }

    Session left(int want) {
        calls++;
        due("left()" + last, x.left(), want);
        return this;
    }

    Session fields(int c, int want) {
        calls++;
        due("fields(" + c + ")" + last, x.fields(c), want);
        return this;
    }

    Session method(int c, char name, int want) {
        calls++;
        due("method(" + c + ", " + name + ")" + last, x.method(c, name - 97), want);
        return this;
    }
}
