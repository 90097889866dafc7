import java.util.ArrayList;
import java.util.Comparator;
import java.util.List;

/**
 * All that calls can tell of an object after a run of calls: its state, the states of its history, that of its
 * snapshot, and its text. Each part is told by new objects that play the run, as one answers 512 calls alone.
 */
final class Portrait {
    private static final int MOST_STATES = 4;
    private static final int MOST_LISTED = 12;
    private static final int MOST_WORDS = 28;

    private final List<String> lines = new ArrayList<>();

    private Portrait() {
    }

    static List<String> of(Checks.Script script) {
        Portrait portrait = new Portrait();
        for (int undone = 0; undone <= MOST_STATES; undone++) {
            int times = undone;
            portrait.state("after " + undone + " undos", x -> {
                script.play(x);
                for (int i = 0; i < times; i++) {
                    x.undo();
                }
            });
        }
        portrait.add("restore", played(script).restore());
        portrait.state("after a restore", x -> {
            script.play(x);
            x.restore();
        });
        // What is behind a text may show what is in it: one that ends too early is a text of words with more.
        portrait.text("the text", script);
        portrait.text("the text and a", x -> { script.play(x); x.type('a'); });
        portrait.text("the text and aa", x -> { script.play(x); x.type('a'); x.type('a'); });
        return portrait.lines;
    }

    /** The first line in which the two are unlike, or null if there is none. */
    static String unlike(List<String> one, List<String> other) {
        for (int i = 0; i < Math.min(one.size(), other.size()); i++) {
            if (!one.get(i).equals(other.get(i))) {
                return one.get(i) + ", but " + other.get(i);
            }
        }
        return one.size() == other.size() ? null : one.size() + " lines, but " + other.size();
    }

    private static SoldLetters played(Checks.Script script) {
        SoldLetters x = new SoldLetters();
        script.play(x);
        return x;
    }

    private void add(String what, int answer) {
        lines.add(what + ": " + answer);
    }

    private void state(String when, Checks.Script script) {
        cells(when, played(script));
        numbers(when, played(script));
        words(when, played(script));
        fits(when, played(script));
        list(when, script);
        SoldLetters x = played(script);
        for (int what = 0; what <= 13; what++) {
            add(when + ", count " + what, x.count(what));
        }
    }

    private void cells(String when, SoldLetters x) {
        for (int row = 0; row < 7; row++) {
            for (int column = 0; column < 7; column++) {
                for (int what = 0; what <= 3; what++) {
                    add(when + ", cell " + row + ", " + column + ", " + what, x.cell(row, column, what));
                }
            }
        }
    }

    private void numbers(String when, SoldLetters x) {
        for (int number = 1; number <= 26; number++) {
            for (int what = 0; what <= 4; what++) {
                add(when + ", number " + number + ", " + what, x.number(number, what));
            }
            add(when + ", could " + number + ", 0", x.could(number, 0));
            add(when + ", could " + number + ", 1", x.could(number, 1));
        }
    }

    private void words(String when, SoldLetters x) {
        for (int word = 0; word < MOST_WORDS; word++) {
            for (int what = 0; what <= 6; what++) {
                add(when + ", word " + word + ", " + what, x.word(word, what));
            }
        }
    }

    private void fits(String when, SoldLetters x) {
        for (int listed = 0; listed < MOST_LISTED; listed++) {
            for (int word = 0; word < MOST_WORDS; word++) {
                add(when + ", fits " + word + ", " + listed, x.fits(word, listed));
            }
        }
    }

    private void list(String when, Checks.Script script) {
        SoldLetters x = played(script);
        for (int listed = 0; listed < MOST_LISTED; listed++) {
            for (int what = 0; what <= 2; what++) {
                add(when + ", listed " + listed + ", " + what, x.listed(listed, what));
            }
            lines.add(when + ", listed " + listed + ": " + letters(script, listed, x.listed(listed, 0)));
        }
    }

    /** The letters of a word of the list, read as the guesses that it gives to a row in which it fits. */
    private static String letters(Checks.Script script, int listed, int length) {
        for (String row : length < 0 ? List.<String>of() : patterns(length)) {
            SoldLetters x = played(script);
            Checks.onlyRow(x, row);
            if (x.guessWord(0, listed) > 0) {
                StringBuilder letters = new StringBuilder();
                for (int column = 0; column < length; column++) {
                    letters.append((char) x.cell(0, column, 1));
                }
                return letters.toString();
            }
        }
        return "none";
    }

    /** One row for each way in which letters may be alike, those with the most unlike letters first. */
    private static List<String> patterns(int length) {
        List<String> patterns = new ArrayList<>(List.of(""));
        for (int i = 0; i < length; i++) {
            List<String> longer = new ArrayList<>();
            for (String pattern : patterns) {
                for (char c = 'a'; c <= 'a' + kinds(pattern); c++) {
                    longer.add(pattern + c);
                }
            }
            patterns = longer;
        }
        patterns.sort(Comparator.comparing(Portrait::kinds).reversed());
        return patterns;
    }

    private static int kinds(String letters) {
        return (int) letters.chars().distinct().count();
    }

    /**
     * The text as a row, and as words: they are added to the list when all others have left it. Both are asked, as
     * the fault of one need not be that of the other; and the length, which can be told even behind both faults.
     */
    private void text(String when, Checks.Script script) {
        length(when, script);
        SoldLetters x = played(script);
        add(when + ", setRow", x.setRow(3));
        for (int column = 0; column < 7; column++) {
            add(when + ", cell 3, " + column, x.cell(3, column, 0));
        }
        Checks.Script emptied = y -> {
            script.play(y);
            for (int i = 0; i < MOST_LISTED && y.count(2) > 0; i++) {
                y.dropWord(0);
            }
        };
        add(when + ", addWords", played(emptied).addWords());
        list(when, y -> { emptied.play(y); y.addWords(); });
    }

    /** As count, type and clearText tell it, and the empty text that clearText leaves. */
    private void length(String when, Checks.Script script) {
        add(when + ", count 13", played(script).count(13));
        add(when + ", type", played(script).type('a'));
        SoldLetters x = played(script);
        add(when + ", clearText", x.clearText());
        add(when + ", count 13 then", x.count(13));
        add(when + ", setRow then", x.setRow(0));
        add(when + ", addWords then", x.addWords());
    }
}
