/** Counts answers that are not due, and does what many tests do to an object. */
final class Checks {
    /** A run of calls on a new object. */
    interface Script {
        void play(SoldLetters x);
    }

    /** One call, whose answer is looked at. */
    interface Call {
        int on(SoldLetters x);
    }

    private static int wrong = 0;
    private static int checked = 0;

    private Checks() {
    }

    static void due(String what, long got, long want) {
        checked++;
        if (got != want) {
            wrong++;
            System.out.println(what + " answered " + got + ", due is " + want);
        }
    }

    static void isTrue(String what, boolean so) {
        checked++;
        if (!so) {
            wrong++;
            System.out.println("not so: " + what);
        }
    }

    /** Ends the test, with exit code 1 if an answer was wrong. */
    static void end() {
        System.out.println(checked + " checks, " + wrong + " wrong");
        if (wrong != 0) {
            System.exit(1);
        }
    }

    static void text(SoldLetters x, String characters) {
        x.clearText();
        for (char c : characters.toCharArray()) {
            x.type(c);
        }
    }

    static int row(SoldLetters x, int row, String characters) {
        text(x, characters);
        return x.setRow(row);
    }

    static int words(SoldLetters x, String characters) {
        text(x, characters);
        return x.addWords();
    }

    /** The rows from the first one on. */
    static void rows(SoldLetters x, String... rows) {
        for (int row = 0; row < rows.length; row++) {
            row(x, row, rows[row]);
        }
    }

    /** Row 0 gets the letters, all others none. */
    static void onlyRow(SoldLetters x, String characters) {
        rows(x, characters, ".", ".", ".", ".", ".", ".");
    }

    /** A new object whose numbers are easy to read, a is 1, b is 2, and so on to z, 26, with these rows from the first on. */
    static SoldLetters plain(String... rows) {
        SoldLetters x = new SoldLetters();
        x.setKey(1, 0);
        rows(x, rows);
        return x;
    }

    /** The script's object must answer so, and then all that can be told of it must be as if there was no call. */
    static void refused(String what, Script before, Call call, int answer) {
        unchanged(what, before, call, answer);
        isTrue(what + " is an error or NONE", answer < 0);
    }

    /** As refused, for calls that answer what is so and change nothing either. */
    static void unchanged(String what, Script before, Call call, int answer) {
        SoldLetters x = new SoldLetters();
        before.play(x);
        due(what, call.on(x), answer);
        Script after = y -> {
            before.play(y);
            call.on(y);
        };
        String unlike = Portrait.unlike(Portrait.of(before), Portrait.of(after));
        isTrue(what + " changes nothing: " + unlike, unlike == null);
    }
}
