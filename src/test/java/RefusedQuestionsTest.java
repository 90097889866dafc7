/** Each error of the @return lines of promises 16 to 22, in the order of the checks; no question changes anything. */
public final class RefusedQuestionsTest {
    private static final int UNKNOWN = SoldLetters.UNKNOWN;
    private static final int BAD_VALUE = SoldLetters.BAD_VALUE;
    private static final int NONE = SoldLetters.NONE;

    public static void main(String[] args) {
        cell();
        number();
        word();
        fits();
        listed();
        could();
        count();
        answersChangeNothing();
        Checks.end();
    }

    /** UNKNOWN (row or column); BAD_VALUE; NONE of a black cell, without a guess, without a word. */
    private static void cell() {
        for (int far : Games.outside(0, 6)) {
            Checks.refused("cell " + far + ", 0", Games::game, x -> x.cell(far, 0, 0), UNKNOWN);
            Checks.refused("cell 0, " + far, Games::game, x -> x.cell(0, far, 0), UNKNOWN);
            Checks.refused("cell " + far + " twice", Games::game, x -> x.cell(far, far, 1), UNKNOWN);
            Checks.refused("UNKNOWN before BAD_VALUE, row " + far, Games::game, x -> x.cell(far, 0, 4), UNKNOWN);
            Checks.refused("UNKNOWN before BAD_VALUE, column " + far, Games::game, x -> x.cell(0, far, -1), UNKNOWN);
        }
        for (int what : Games.outside(0, 3)) {
            Checks.refused("cell 0, 0, " + what, Games::game, x -> x.cell(0, 0, what), BAD_VALUE);
            Checks.refused("BAD_VALUE before NONE, " + what, Games::game, x -> x.cell(6, 6, what), BAD_VALUE);
        }
        for (int what = 0; what <= 3; what++) {
            int asked = what;
            Checks.refused("a black cell, " + what, Games::game, x -> x.cell(6, 6, asked), NONE);
            Checks.refused("a cell of a new object, " + what, x -> { }, x -> x.cell(0, 0, asked), NONE);
        }
        Checks.refused("a cell without a guess", Games::game, x -> x.cell(2, 1, 1), NONE);
        Checks.refused("a cell without a word across", Games::game, x -> x.cell(2, 1, 2), NONE);
        Checks.refused("a cell without a word down", Games::game, x -> x.cell(2, 1, 3), NONE);
    }

    /** UNKNOWN; BAD_VALUE; NONE without a guess. */
    private static void number() {
        for (int far : Games.outside(1, 26)) {
            Checks.refused("number " + far, Games::game, x -> x.number(far, 0), UNKNOWN);
            Checks.refused("UNKNOWN before BAD_VALUE, " + far, Games::game, x -> x.number(far, 5), UNKNOWN);
        }
        for (int what : Games.outside(0, 4)) {
            Checks.refused("number 1, " + what, Games::game, x -> x.number(1, what), BAD_VALUE);
            Checks.refused("number 26, " + what, x -> { }, x -> x.number(26, what), BAD_VALUE);
        }
        Checks.refused("a number without a guess", Games::game, x -> x.number(2, 1), NONE);
        Checks.refused("a number without cells or a guess", Games::game, x -> x.number(26, 1), NONE);
    }

    /** UNKNOWN; BAD_VALUE; NONE without a word of the list that fits. */
    private static void word() {
        for (int far : Games.outside(0, 3)) {
            Checks.refused("word " + far, Games::game, x -> x.word(far, 0), UNKNOWN);
            Checks.refused("UNKNOWN before BAD_VALUE, " + far, Games::game, x -> x.word(far, 7), UNKNOWN);
        }
        Checks.refused("word 0 of a new object", x -> { }, x -> x.word(0, 0), UNKNOWN);
        for (int what : Games.outside(0, 6)) {
            Checks.refused("word 0, " + what, Games::game, x -> x.word(0, what), BAD_VALUE);
            Checks.refused("word 3, " + what, Games::game, x -> x.word(3, what), BAD_VALUE);
        }
        Checks.refused("none fits", Games::game, x -> x.word(1, 6), NONE);
        Checks.refused("an empty list", x -> Checks.row(x, 0, "ab"), x -> x.word(0, 6), NONE);
    }

    /** UNKNOWN (word or listed). */
    private static void fits() {
        for (int far : Games.outside(0, 3)) {
            Checks.refused("fits " + far + ", 2", Games::game, x -> x.fits(far, 2), UNKNOWN);
            Checks.refused("fits 0, " + far, Games::game, x -> x.fits(0, far), UNKNOWN);
            Checks.refused("fits " + far + " twice", Games::game, x -> x.fits(far, far), UNKNOWN);
        }
        Checks.refused("fits without words", x -> Checks.words(x, "ab"), x -> x.fits(0, 0), UNKNOWN);
        Checks.refused("fits without a list", x -> Checks.row(x, 0, "ab"), x -> x.fits(0, 0), UNKNOWN);
    }

    /** UNKNOWN; BAD_VALUE; NONE if it fits none. */
    private static void listed() {
        for (int far : Games.outside(0, 3)) {
            Checks.refused("listed " + far, Games::game, x -> x.listed(far, 0), UNKNOWN);
            Checks.refused("UNKNOWN before BAD_VALUE, " + far, Games::game, x -> x.listed(far, 3), UNKNOWN);
        }
        Checks.refused("listed 12 of a full list", Games::full, x -> x.listed(12, 0), UNKNOWN);
        Checks.refused("listed 0 of an empty list", x -> { }, x -> x.listed(0, 0), UNKNOWN);
        for (int what : Games.outside(0, 2)) {
            Checks.refused("listed 2, " + what, Games::game, x -> x.listed(2, what), BAD_VALUE);
            Checks.refused("BAD_VALUE before NONE, " + what, Games::game, x -> x.listed(0, what), BAD_VALUE);
        }
        Checks.refused("it fits none", Games::game, x -> x.listed(0, 2), NONE);
        Checks.refused("it fits none of no words", x -> Checks.words(x, "ab"), x -> x.listed(0, 2), NONE);
    }

    /** UNKNOWN; BAD_VALUE; NONE if the number has a guess, or no cell has it; NONE without a lowest letter. */
    private static void could() {
        for (int far : Games.outside(1, 26)) {
            Checks.refused("could " + far, Games::game, x -> x.could(far, 0), UNKNOWN);
            Checks.refused("UNKNOWN before BAD_VALUE, " + far, Games::game, x -> x.could(far, 2), UNKNOWN);
        }
        for (int what : Games.outside(0, 1)) {
            Checks.refused("could 2, " + what, Games::game, x -> x.could(2, what), BAD_VALUE);
            Checks.refused("BAD_VALUE before NONE of a guess, " + what, Games::game, x -> x.could(3, what), BAD_VALUE);
            Checks.refused("BAD_VALUE before NONE without cells, " + what, x -> { }, x -> x.could(26, what), BAD_VALUE);
        }
        for (int what = 0; what <= 1; what++) {
            int asked = what;
            Checks.refused("could of a guess, " + what, Games::game, x -> x.could(3, asked), NONE);
            Checks.refused("could of a fixed number, " + what, Games::game, x -> x.could(1, asked), NONE);
            Checks.refused("could without cells, " + what, Games::game, x -> x.could(26, asked), NONE);
        }
        Checks.refused("no letter is left", RefusedQuestionsTest::noLetterFits, x -> x.could(1, 1), NONE);
        Checks.unchanged("none is left", RefusedQuestionsTest::noLetterFits, x -> x.could(1, 0), 0);
    }

    private static void noLetterFits(SoldLetters x) {
        x.setKey(1, 0);
        Checks.rows(x, "abc", "d");
        Checks.words(x, "xyz,pq");
    }

    /** BAD_VALUE. */
    private static void count() {
        for (int what : Games.outside(0, 13)) {
            Checks.refused("count " + what, Games::game, x -> x.count(what), BAD_VALUE);
            Checks.refused("count " + what + " of a new object", x -> { }, x -> x.count(what), BAD_VALUE);
        }
    }

    private static void answersChangeNothing() {
        Checks.unchanged("cell", Games::game, x -> x.cell(0, 0, 0), 1);
        Checks.unchanged("number", Games::game, x -> x.number(3, 1), 'q');
        Checks.unchanged("word", Games::game, x -> x.word(0, 6), 2);
        Checks.unchanged("fits", Games::game, x -> x.fits(0, 2), 1);
        Checks.unchanged("listed", Games::game, x -> x.listed(2, 2), 4);
        Checks.unchanged("could", Games::game, x -> x.could(2, 0), 1);
        Checks.unchanged("count", Games::game, x -> x.count(6), 4);
    }
}
