/** Promises 6 (guess), 7 (guessWord), 8 (buy), 9 (check) and 22 (count). */
public final class PlayTest {
    public static void main(String[] args) {
        guesses();
        wholeWords();
        buying();
        checks();
        counts();
        solving();
        Checks.end();
    }

    private static void guesses() {
        SoldLetters x = Checks.plain("abba.c");
        Checks.due("two cells", x.guess(1, 'z'), 2);
        Checks.due("three cells", x.guess(3, 'a'), 3);
        Checks.due("another letter", x.guess(1, 'y'), 3);
        Checks.due("y", x.number(1, 1), 'y');
        Checks.due("z is free again", x.guess(2, 'z'), 5);
        Checks.due("taken back", x.guess(1, '.'), 3);
        Checks.due("none", x.number(1, 1), -5);
        Checks.due("a number without cells", x.guess(26, 'y'), 3);
        Checks.due("has it", x.number(26, 1), 'y');
        Checks.due("the first letter is taken, by 3", x.guess(1, 'a'), -4);
        Checks.due("a letter of a number without cells is taken", x.guess(1, 'y'), -4);
        Checks.due("undo", x.undo(), 3);
        Checks.due("undone", x.number(26, 1), -5);
        Checks.due("undo of taking back", x.undo(), 2);
        Checks.due("y is back", x.number(1, 1), 'y');
    }

    private static void wholeWords() {
        SoldLetters x = Checks.plain("abba.c");
        Checks.words(x, "xyyx,xzzx");
        Checks.due("two numbers", x.guessWord(0, 0), 2);
        Checks.due("x", x.number(1, 1), 'x');
        Checks.due("y", x.number(2, 1), 'y');
        Checks.due("c has none", x.number(3, 1), -5);
        Checks.due("guessed cells", x.count(6), 4);
        Checks.due("undo", x.undo(), 3);
        Checks.due("no guess", x.count(6), 0);
        x.guess(1, 'x');
        Checks.due("one number more", x.guessWord(0, 1), 1);
        Checks.due("z", x.number(2, 1), 'z');
        Checks.due("nothing is fixed", x.number(2, 3), 0);
        SoldLetters y = Checks.plain();
        Checks.row(y, 0, "ab");
        Checks.row(y, 1, "c");
        Checks.words(y, "qr,st");
        Checks.due("the word down", y.guessWord(1, 1), 2);
        Checks.due("s", y.cell(0, 0, 1), 's');
        Checks.due("t", y.cell(1, 0, 1), 't');
        Checks.due("b has none", y.cell(0, 1, 1), -5);
    }

    private static void buying() {
        SoldLetters x = Checks.plain("abba.c");
        Checks.due("a", x.buy(1), 'a');
        Checks.due("for three", x.count(3), 27);
        Checks.due("its guess", x.number(1, 1), 'a');
        Checks.due("fixed", x.number(1, 3), 1);
        Checks.due("bought", x.count(8), 1);
        x.guess(3, 'b');
        x.guess(2, 'q');
        Checks.due("b, which 3 had as its guess, in place of q", x.buy(2), 'b');
        Checks.due("3 has none", x.number(3, 1), -5);
        Checks.due("b", x.number(2, 1), 'b');
        Checks.due("q is free", x.guess(25, 'q'), 4);
        Checks.due("the one that it has already can be bought", x.guess(3, 'c'), 5);
        Checks.due("c", x.buy(3), 'c');
        Checks.due("still c", x.number(3, 1), 'c');
        Checks.due("for two", x.count(3), 22);
        Checks.due("three bought", x.count(8), 3);
        Checks.due("undo", x.undo(), 3);
        Checks.due("coins are back", x.count(3), 24);
        Checks.due("two bought", x.count(8), 2);
        Checks.due("free again", x.number(3, 3), 0);
        Checks.due("a letter of a number without cells goes too", x.guess(3, '.'), 4);
        x.guess(24, 'c');
        Checks.due("c again", x.buy(3), 'c');
        Checks.due("24 has none", x.number(24, 1), -5);
        SoldLetters y = new SoldLetters();
        Checks.row(y, 6, "z");
        Checks.due("z under the first key", y.buy(23), 'z');
        Checks.due("for two", y.count(3), 28);
    }

    private static void checks() {
        SoldLetters x = Checks.plain("abba.c");
        Checks.due("no guess is wrong", x.check(0), 0);
        Checks.due("a coin", x.count(3), 29);
        Checks.due("a check", x.count(9), 1);
        x.guess(1, 'a');
        Checks.due("a right guess", x.check(0), 0);
        x.guess(2, 'z');
        Checks.due("two cells of a wrong guess", x.check(0), 2);
        x.guess(1, 'y');
        Checks.due("four", x.check(0), 4);
        x.guess(3, 'x');
        Checks.due("another cell does not matter", x.check(0), 4);
        Checks.due("five checks", x.count(9), 5);
        Checks.due("undo", x.undo(), 3);
        Checks.due("the coin is back", x.count(3), 26);
        Checks.due("four checks", x.count(9), 4);
    }

    private static void counts() {
        SoldLetters x = Checks.plain("abba.c");
        Checks.words(x, "xx,yy,zz");
        x.give(10);
        x.check(0);
        x.buy(2);
        x.guess(3, 'q');
        x.guess(26, 'w');
        int[] due = {5, 1, 3, 36, 3, 2, 3, 0, 1, 1, 1, 0, 4, 8};
        for (int what = 0; what < due.length; what++) {
            Checks.due("count(" + what + ")", x.count(what), due[what]);
        }
    }

    private static void solving() {
        SoldLetters x = Checks.plain("abba.c");
        Checks.due("nothing guessed", x.count(7), 0);
        x.guess(1, 'a');
        x.guess(2, 'b');
        Checks.due("not all", x.count(7), 0);
        x.guess(3, 'd');
        Checks.due("all guessed, one wrong", x.count(7), 0);
        x.guess(3, 'c');
        Checks.due("solved", x.count(7), 1);
        x.guess(26, 'y');
        Checks.due("other numbers do not matter", x.count(7), 1);
        x.guess(3, '.');
        Checks.due("taken back", x.count(7), 0);
        x.buy(3);
        Checks.due("bought", x.count(7), 1);
        Checks.row(x, 0, ".");
        Checks.due("without cells", x.count(7), 0);
        Checks.row(x, 0, "z");
        x.guess(26, 'y');
        Checks.due("one cell, wrong", x.count(7), 0);
        x.guess(26, 'z');
        Checks.due("one cell, right", x.count(7), 1);
        Checks.due("one number", x.count(4), 1);
        Checks.due("with a guess", x.count(5), 1);
        Checks.row(x, 0, "......a");
        x.guess(1, 'a');
        Checks.due("one cell at the end of a row", x.count(7), 1);
        Checks.row(x, 0, "ba");
        x.guess(1, 'a');
        Checks.due("but the first cell", x.count(7), 0);
    }
}
