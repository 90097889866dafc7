import java.util.ArrayList;
import java.util.List;

/** Counts answers that are not due, and tells what an object answers after a run of calls. */
final class Checks {
    /** A run of calls on a new object. */
    interface Script {
        void play(SoldLetters x);
    }

    /** One call, whose answer is looked at. */
    interface Call {
        int on(SoldLetters x);
    }

    private static int wrong = 0;
    private static int checked = 0;

    private Checks() {
    }

    static void due(String what, long got, long want) {
        checked++;
        if (got != want) {
            wrong++;
            System.out.println(what + " answered " + got + ", due is " + want);
        }
    }

    static void isTrue(String what, boolean so) {
        checked++;
        if (!so) {
            wrong++;
            System.out.println("not so: " + what);
        }
    }

    /** Ends the test, with exit code 1 if an answer was wrong. */
    static void end() {
        System.out.println(checked + " checks, " + wrong + " wrong");
        if (wrong != 0) {
            System.exit(1);
        }
    }

    static void text(SoldLetters x, String characters) {
        x.clearText();
        for (char c : characters.toCharArray()) {
            x.type(c);
        }
    }

    static int row(SoldLetters x, int row, String characters) {
        text(x, characters);
        return x.setRow(row);
    }

    static int words(SoldLetters x, String characters) {
        text(x, characters);
        return x.addWords();
    }

    /** A new object whose numbers are easy to read: a is 1, b is 2, and so on to z, 26. */
    static SoldLetters plain() {
        SoldLetters x = new SoldLetters();
        x.setKey(1, 0);
        return x;
    }

    /** The script's object must refuse the call with the answer, and then tell and undo as if it had not been called. */
    static void refused(String what, Script before, Call call, int answer) {
        SoldLetters x = new SoldLetters();
        before.play(x);
        due(what, call.on(x), answer);
        Script after = y -> {
            before.play(y);
            call.on(y);
        };
        isTrue(what + " changes nothing", everythingTold(before).equals(everythingTold(after)));
    }

    /** What is told now, after each undo, and after a restore. */
    static List<List<Integer>> everythingTold(Script script) {
        List<List<Integer>> told = new ArrayList<>();
        for (int undone = 0; undone <= 4; undone++) {
            int times = undone;
            told.add(told(y -> {
                script.play(y);
                for (int i = 0; i < times; i++) {
                    y.undo();
                }
            }));
        }
        told.add(told(y -> {
            script.play(y);
            y.restore();
        }));
        return told;
    }

    /** All answers of the methods that tell, each few on a new object, as only 512 calls of one are promised. */
    static List<Integer> told(Script script) {
        List<Integer> answers = new ArrayList<>();
        SoldLetters x = played(script);
        for (int row = 0; row < 7; row++) {
            for (int column = 0; column < 7; column++) {
                for (int what = 0; what < 4; what++) {
                    answers.add(x.cell(row, column, what));
                }
            }
        }
        x = played(script);
        for (int number = 1; number <= 26; number++) {
            for (int what = 0; what < 5; what++) {
                answers.add(x.number(number, what));
            }
            answers.add(x.could(number, 0));
            answers.add(x.could(number, 1));
        }
        tellWords(x, answers);
        x = played(script);
        for (int listed = 0; listed < 12; listed++) {
            for (int what = 0; what < 3; what++) {
                answers.add(x.listed(listed, what));
            }
            for (int word = 0; word < 28; word++) {
                answers.add(x.fits(word, listed));
            }
        }
        tellCounts(x, answers);
        return answers;
    }

    private static void tellWords(SoldLetters x, List<Integer> answers) {
        for (int word = 0; word < 28 && x.word(word, 0) != SoldLetters.UNKNOWN; word++) {
            for (int what = 0; what < 7; what++) {
                answers.add(x.word(word, what));
            }
        }
    }

    private static void tellCounts(SoldLetters x, List<Integer> answers) {
        for (int what = 0; what < 14; what++) {
            answers.add(x.count(what));
        }
    }

    private static SoldLetters played(Script script) {
        SoldLetters x = new SoldLetters();
        script.play(x);
        return x;
    }
}
