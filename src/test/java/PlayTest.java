/** Promises 6 (guess), 7 (guessWord), 8 (buy), 9 (check), 10 (give), 11 (type), 12 (clearText) and 22 (count). */
public final class PlayTest {
    public static void main(String[] args) {
        guesses();
        guessRefusals();
        wholeWords();
        wholeWordRefusals();
        buying();
        buyRefusals();
        checks();
        giving();
        typing();
        counts();
        solving();
        Checks.end();
    }

    private static void abba(SoldLetters x) {
        x.setKey(1, 0);
        Checks.row(x, 0, "abba.c");
        x.keep();
    }

    private static SoldLetters abba() {
        SoldLetters x = new SoldLetters();
        abba(x);
        return x;
    }

    private static void guesses() {
        SoldLetters x = abba();
        Checks.due("two cells", x.guess(1, 'z'), 2);
        Checks.due("three cells", x.guess(3, 'a'), 3);
        Checks.due("another letter", x.guess(1, 'y'), 3);
        Checks.due("y", x.number(1, 1), 'y');
        Checks.due("z is free again", x.guess(2, 'z'), 5);
        Checks.due("taken back", x.guess(1, '.'), 3);
        Checks.due("none", x.number(1, 1), -5);
        Checks.due("a number without cells", x.guess(26, 'y'), 3);
        Checks.due("has it", x.number(26, 1), 'y');
        Checks.due("the first letter is taken, by 3", x.guess(1, 'a'), -4);
        Checks.due("a letter of a number without cells is taken", x.guess(1, 'y'), -4);
        Checks.due("undo", x.undo(), 3);
        Checks.due("undone", x.number(26, 1), -5);
        Checks.due("undo of taking back", x.undo(), 2);
        Checks.due("y is back", x.number(1, 1), 'y');
    }

    private static void guessRefusals() {
        int[] outside = {Integer.MIN_VALUE, -1, 0, 27, Integer.MAX_VALUE};
        for (int far : outside) {
            Checks.refused("guess of " + far, PlayTest::abba, x -> x.guess(far, 'a'), -1);
            Checks.refused("UNKNOWN before BAD_VALUE", PlayTest::abba, x -> x.guess(far, '?'), -1);
        }
        char[] bad = {0, 'A', 'Z', '`', '{', ',', '-', '/', ' ', 256 + 'a', 65535};
        for (char letter : bad) {
            Checks.refused("letter " + (int) letter, PlayTest::abba, x -> x.guess(1, letter), -2);
            Checks.refused("BAD_VALUE before NOT_POSSIBLE", PlayTest::bought, x -> x.guess(1, letter), -2);
        }
        Checks.refused("fixed", PlayTest::bought, x -> x.guess(1, 'z'), -4);
        Checks.refused("fixed, not taken back", PlayTest::bought, x -> x.guess(1, '.'), -4);
        Checks.refused("fixed, though it is so already", PlayTest::bought, x -> x.guess(1, 'a'), -4);
        Checks.refused("the letter of a fixed number", PlayTest::bought, x -> x.guess(2, 'a'), -4);
        Checks.refused("the letter of another", x -> { abba(x); x.guess(1, 'q'); }, x -> x.guess(3, 'q'), -4);
        Checks.refused("so already", x -> { abba(x); x.guess(1, 'q'); }, x -> x.guess(1, 'q'), -5);
        Checks.refused("none already", PlayTest::abba, x -> x.guess(1, '.'), -5);
    }

    private static void bought(SoldLetters x) {
        abba(x);
        x.buy(1);
    }

    private static void wholeWords() {
        SoldLetters x = abba();
        Checks.words(x, "xyyx,xzzx");
        Checks.due("two numbers", x.guessWord(0, 0), 2);
        Checks.due("x", x.number(1, 1), 'x');
        Checks.due("y", x.number(2, 1), 'y');
        Checks.due("c has none", x.number(3, 1), -5);
        Checks.due("guessed cells", x.count(6), 4);
        Checks.due("undo", x.undo(), 3);
        Checks.due("no guess", x.count(6), 0);
        x.guess(1, 'x');
        Checks.due("one number more", x.guessWord(0, 1), 1);
        Checks.due("z", x.number(2, 1), 'z');
        Checks.due("nothing is fixed", x.number(2, 3), 0);
        SoldLetters y = Checks.plain();
        Checks.row(y, 0, "ab");
        Checks.row(y, 1, "c");
        Checks.words(y, "qr,st");
        Checks.due("the word down", y.guessWord(1, 1), 2);
        Checks.due("s", y.cell(0, 0, 1), 's');
        Checks.due("t", y.cell(1, 0, 1), 't');
        Checks.due("b has none", y.cell(0, 1, 1), -5);
    }

    private static void wholeWordRefusals() {
        int[] outside = {Integer.MIN_VALUE, -1, 1, Integer.MAX_VALUE};
        for (int far : outside) {
            Checks.refused("word " + far, PlayTest::listedAbba, x -> x.guessWord(far, 0), -1);
        }
        int[] outsideList = {Integer.MIN_VALUE, -1, 3, 12, Integer.MAX_VALUE};
        for (int far : outsideList) {
            Checks.refused("listed " + far, PlayTest::listedAbba, x -> x.guessWord(0, far), -1);
            Checks.refused("neither", PlayTest::listedAbba, x -> x.guessWord(9, far), -1);
        }
        Checks.refused("it does not fit", PlayTest::listedAbba, x -> x.guessWord(0, 1), -4);
        Checks.refused("all are guessed", x -> { listedAbba(x); x.guessWord(0, 0); }, x -> x.guessWord(0, 0), -5);
        Checks.refused("NOT_POSSIBLE before NONE", x -> { listedAbba(x); x.guessWord(0, 0); }, x -> x.guessWord(0, 2), -4);
    }

    private static void listedAbba(SoldLetters x) {
        abba(x);
        Checks.words(x, "xyyx,xyxy,pqqp");
    }

    private static void buying() {
        SoldLetters x = abba();
        Checks.due("a", x.buy(1), 'a');
        Checks.due("for three", x.count(3), 27);
        Checks.due("its guess", x.number(1, 1), 'a');
        Checks.due("fixed", x.number(1, 3), 1);
        Checks.due("bought", x.count(8), 1);
        x.guess(3, 'b');
        x.guess(2, 'q');
        Checks.due("b, which 3 had as its guess, in place of q", x.buy(2), 'b');
        Checks.due("3 has none", x.number(3, 1), -5);
        Checks.due("b", x.number(2, 1), 'b');
        Checks.due("q is free", x.guess(25, 'q'), 4);
        Checks.due("the one that it has already can be bought", x.guess(3, 'c'), 5);
        Checks.due("c", x.buy(3), 'c');
        Checks.due("still c", x.number(3, 1), 'c');
        Checks.due("for two", x.count(3), 22);
        Checks.due("three bought", x.count(8), 3);
        Checks.due("undo", x.undo(), 3);
        Checks.due("coins are back", x.count(3), 24);
        Checks.due("two bought", x.count(8), 2);
        Checks.due("free again", x.number(3, 3), 0);
        Checks.due("a letter of a number without cells goes too", x.guess(3, '.'), 4);
        x.guess(24, 'c');
        Checks.due("c again", x.buy(3), 'c');
        Checks.due("24 has none", x.number(24, 1), -5);
        SoldLetters y = new SoldLetters();
        Checks.row(y, 6, "z");
        Checks.due("z under the first key", y.buy(23), 'z');
        Checks.due("for two", y.count(3), 28);
    }

    private static void buyRefusals() {
        int[] outside = {Integer.MIN_VALUE, -1, 0, 27, Integer.MAX_VALUE};
        for (int far : outside) {
            Checks.refused("buy " + far, PlayTest::abba, x -> x.buy(far), -1);
        }
        Checks.refused("fixed", PlayTest::bought, x -> x.buy(1), -4);
        Checks.refused("no cell has it", PlayTest::abba, x -> x.buy(4), -5);
        Checks.refused("too dear", x -> coins(x, 2), x -> x.buy(1), -4);
        Checks.refused("one coin for two", x -> coins(x, 1), x -> x.buy(3), -4);
        Checks.refused("no coin and no cell", x -> coins(x, 0), x -> x.buy(4), -4);
        Checks.refused("a coin and no cell", x -> coins(x, 1), x -> x.buy(4), -5);
        SoldLetters x = new SoldLetters();
        coins(x, 3);
        Checks.due("just enough", x.buy(1), 'a');
        Checks.due("none is left", x.count(3), 0);
    }

    /** The grid of abba with so many coins. */
    private static void coins(SoldLetters x, int left) {
        abba(x);
        for (int i = 30; i > left; i--) {
            x.check(0);
        }
    }

    private static void checks() {
        SoldLetters x = abba();
        Checks.due("no guess is wrong", x.check(0), 0);
        Checks.due("a coin", x.count(3), 29);
        Checks.due("a check", x.count(9), 1);
        x.guess(1, 'a');
        Checks.due("a right guess", x.check(0), 0);
        x.guess(2, 'z');
        Checks.due("two cells of a wrong guess", x.check(0), 2);
        x.guess(1, 'y');
        Checks.due("four", x.check(0), 4);
        x.guess(3, 'x');
        Checks.due("another cell does not matter", x.check(0), 4);
        Checks.due("five checks", x.count(9), 5);
        Checks.due("undo", x.undo(), 3);
        Checks.due("the coin is back", x.count(3), 26);
        Checks.due("four checks", x.count(9), 4);
        int[] outside = {Integer.MIN_VALUE, -1, 1, Integer.MAX_VALUE};
        for (int far : outside) {
            Checks.refused("check " + far, PlayTest::abba, y -> y.check(far), -1);
            Checks.refused("UNKNOWN before NOT_POSSIBLE", y -> coins(y, 0), y -> y.check(far), -1);
        }
        Checks.refused("no coin", y -> coins(y, 0), y -> y.check(0), -4);
        SoldLetters last = new SoldLetters();
        coins(last, 1);
        Checks.due("the last coin", last.check(0), 0);
        Checks.due("none", last.count(3), 0);
    }

    private static void giving() {
        SoldLetters x = new SoldLetters();
        Checks.due("one", x.give(1), 31);
        Checks.due("ninety-nine", x.give(99), 130);
        Checks.due("undo", x.undo(), 1);
        Checks.due("31 are back", x.count(3), 31);
        rich(x);
        Checks.due("at most 999", x.count(3), 999);
        int[] bad = {Integer.MIN_VALUE, -1, 0, 100, Integer.MAX_VALUE};
        for (int coins : bad) {
            Checks.refused("give " + coins, PlayTest::abba, y -> y.give(coins), -2);
            Checks.refused("BAD_VALUE before NONE", PlayTest::rich, y -> y.give(coins), -2);
        }
        Checks.refused("999 already", PlayTest::rich, y -> y.give(1), -5);
        SoldLetters near = new SoldLetters();
        for (int i = 0; i < 9; i++) {
            near.give(99);
        }
        Checks.due("921", near.count(3), 921);
        Checks.due("998", near.give(77), 998);
        Checks.due("one", near.give(1), 999);
        near.undo();
        Checks.due("two are one", near.give(2), 999);
    }

    private static void rich(SoldLetters x) {
        for (int i = 0; i < 11; i++) {
            x.give(99);
        }
    }

    private static void typing() {
        SoldLetters x = new SoldLetters();
        char[] any = {'a', 0, 255, 256, 65535, '.', ',', '\n'};
        for (int i = 0; i < any.length; i++) {
            Checks.due("any character", x.type(any[i]), i + 1);
        }
        Checks.due("length", x.count(13), 8);
        for (int i = 9; i <= 60; i++) {
            Checks.due("up to sixty", x.type('b'), i);
        }
        Checks.refused("full", y -> Checks.text(y, "a".repeat(60)), y -> y.type('a'), -3);
        Checks.due("full", x.type('c'), -3);
        Checks.due("typing is no act", x.count(12), 0);
        Checks.due("a fault of the text", x.setRow(0), -101);
        Checks.due("clear", x.clearText(), 60);
        Checks.due("empty", x.count(13), 0);
        Checks.due("clear again", x.clearText(), 0);
        Checks.due("clearing is no act", x.count(12), 0);
        Checks.due("from the beginning", x.type('q'), 1);
        Checks.due("the new text is read", x.setRow(0), 0);
        Checks.due("q", x.number(12, 0), 1);
        Checks.due("one letter", x.count(0), 1);
    }

    private static void counts() {
        SoldLetters x = abba();
        Checks.words(x, "xx,yy,zz");
        x.give(10);
        x.check(0);
        x.buy(2);
        x.guess(3, 'q');
        x.guess(26, 'w');
        int[] due = {5, 1, 3, 36, 3, 2, 3, 0, 1, 1, 1, 0, 4, 8};
        for (int what = 0; what < due.length; what++) {
            Checks.due("count(" + what + ")", x.count(what), due[what]);
        }
        int[] bad = {Integer.MIN_VALUE, -1, 14, Integer.MAX_VALUE};
        for (int what : bad) {
            Checks.refused("count(" + what + ")", PlayTest::abba, y -> y.count(what), -2);
        }
    }

    private static void solving() {
        SoldLetters x = abba();
        Checks.due("nothing guessed", x.count(7), 0);
        x.guess(1, 'a');
        x.guess(2, 'b');
        Checks.due("not all", x.count(7), 0);
        x.guess(3, 'd');
        Checks.due("all guessed, one wrong", x.count(7), 0);
        x.guess(3, 'c');
        Checks.due("solved", x.count(7), 1);
        x.guess(26, 'y');
        Checks.due("other numbers do not matter", x.count(7), 1);
        x.guess(3, '.');
        Checks.due("taken back", x.count(7), 0);
        x.buy(3);
        Checks.due("bought", x.count(7), 1);
        Checks.row(x, 0, ".");
        Checks.due("without cells", x.count(7), 0);
        Checks.row(x, 0, "z");
        x.guess(26, 'y');
        Checks.due("one cell, wrong", x.count(7), 0);
        x.guess(26, 'z');
        Checks.due("one cell, right", x.count(7), 1);
        Checks.due("one number", x.count(4), 1);
        Checks.due("with a guess", x.count(5), 1);
        Checks.row(x, 0, "......a");
        x.guess(1, 'a');
        Checks.due("one cell at the end of a row", x.count(7), 1);
        Checks.row(x, 0, "ba");
        x.guess(1, 'a');
        Checks.due("but the first cell", x.count(7), 0);
    }
}
