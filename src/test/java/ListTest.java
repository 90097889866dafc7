/** Promises 4 (addWords), 5 (dropWord), 19 (fits), 20 (listed) and 21 (could). */
public final class ListTest {
    public static void main(String[] args) {
        adding();
        dropping();
        fitting();
        listed();
        could();
        Checks.end();
    }

    private static void adding() {
        SoldLetters x = Checks.plain();
        Checks.due("one of two letters", Checks.words(x, "xy"), 1);
        Checks.due("the text stays", x.count(13), 2);
        Checks.due("one of seven, one of three", Checks.words(x, "abcdefg,abc"), 2);
        Checks.due("those already there don't come", Checks.words(x, "abc,zz,xy,zzz"), 2);
        Checks.due("the same word twice comes once", Checks.words(x, "qq,pp,qq,pp,qq"), 2);
        Checks.due("seven words", x.count(2), 7);
        Checks.due("unlike in one letter alone", Checks.words(new SoldLetters(), "xy,xx,yy,yx,xyx,xyy"), 6);
        int[] lengths = {2, 7, 3, 2, 3, 2, 2};
        for (int listed = 0; listed < lengths.length; listed++) {
            Checks.due("letters of " + listed, x.listed(listed, 0), lengths[listed]);
        }
        Checks.due("a word that another begins with is another", Checks.words(x, "ab,abcd"), 2);
        Checks.row(x, 0, "pp");
        Checks.due("the order: zz, then qq, pp", x.word(0, 6), 3);
        x.guess(16, 'p');
        Checks.due("pp behind qq", x.word(0, 6), 6);
        Checks.due("sixty characters", Checks.words(new SoldLetters(), "abcdefg,abcdef,abcde,bcdefg,bcdef,bcde,cdefghi,defghij,efghi"), 9);
        SoldLetters y = new SoldLetters();
        Checks.words(y, "ab,cd");
        Checks.words(y, "ef");
        Checks.due("undo", y.undo(), 1);
        Checks.due("two are left", y.count(2), 2);
        Checks.due("undo", y.undo(), 0);
        Checks.due("none is left", y.count(2), 0);
    }

    private static void dropping() {
        SoldLetters x = new SoldLetters();
        Checks.words(x, "ab,abc,abcd,abcde,abcdef");
        Checks.due("in the middle", x.dropWord(1), 4);
        Checks.due("the first stays", x.listed(0, 0), 2);
        Checks.due("later ones move", x.listed(1, 0), 4);
        Checks.due("the last moves", x.listed(3, 0), 6);
        Checks.due("no fifth", x.listed(4, 0), -1);
        Checks.due("the last", x.dropWord(3), 3);
        Checks.due("the first", x.dropWord(0), 2);
        Checks.due("abcd is first", x.listed(0, 0), 4);
        Checks.due("undo", x.undo(), 3);
        Checks.due("ab is first again", x.listed(0, 0), 2);
        Checks.due("dropped words may come again", Checks.words(x, "abc"), 1);
        Checks.due("at the end", x.listed(3, 0), 3);
        SoldLetters letters = Checks.plain();
        Checks.words(letters, "ab,cde,fgh");
        letters.dropWord(0);
        Checks.row(letters, 0, "fgh");
        letters.guessWord(0, 1);
        Checks.due("the letters move too", letters.number(7, 1), 'g');
        dropped();
        SoldLetters full = new SoldLetters();
        Checks.words(full, Games.TWELVE);
        Checks.due("of twelve", full.dropWord(11), 11);
        Checks.due("room again", Checks.words(full, "zz"), 1);
    }

    /** A word that is gone, from the list or the grid, fits nothing any more. */
    private static void dropped() {
        SoldLetters x = Checks.plain();
        Checks.row(x, 0, "ab.cd");
        Checks.words(x, "xyz,pq");
        x.dropWord(1);
        Checks.due("none fits", x.word(0, 5), 0);
        Checks.due("no first", x.word(0, 6), -5);
        Checks.due("all letters", x.could(1, 0), 26);
        Checks.words(x, "rs");
        Checks.due("two words", x.listed(1, 1), 2);
        Checks.row(x, 0, "ab");
        Checks.due("one word", x.listed(1, 1), 1);
        Checks.row(x, 0, ".");
        Checks.due("none of no words", x.listed(1, 1), 0);
        Checks.due("no price of no words", x.listed(1, 2), -5);
        Checks.row(x, 0, "aba");
        Checks.due("none", x.listed(1, 1), 0);
        Checks.due("no price", x.listed(1, 2), -5);
        x.dropWord(0);
        x.undo();
        Checks.row(x, 0, "abc");
        x.guessWord(0, 0);
        Checks.due("the letters are back with undo", x.cell(0, 2, 1), 'z');
        SoldLetters y = Checks.plain();
        Checks.row(y, 0, "ab");
        Checks.words(y, Games.TWELVE);
        Checks.due("a full list", y.word(0, 5), 11);
        Checks.due("the second", y.word(0, 6), 1);
        Checks.due("what eleven have", y.could(2, 0), 11);
        Checks.row(y, 0, "abcde");
        Checks.due("none of a full list", y.word(0, 6), -5);
        Checks.row(y, 0, "ab");
        y.dropWord(0);
        y.undo();
        y.guessWord(0, 10);
        Checks.due("the last ones' letters are back with undo", y.cell(0, 1, 1), 'k');
        Checks.row(y, 0, "aa");
        Checks.row(y, 0, ".");
        Checks.due("a word that is gone", y.listed(0, 2), -5);
    }

    private static void fitting() {
        fit("as long", "abc", "xyz", "", true);
        fit("too short", "abc", "xy", "", false);
        fit("too long", "abc", "xyzw", "", false);
        fit("the same number, the same letter", "aba", "xyx", "", true);
        fit("the same number, unlike letters", "aba", "xyz", "", false);
        fit("unlike numbers, the same letter", "abc", "xyx", "", false);
        fit("a guess that the word has", "abc", "xyz", "ax", true);
        fit("a guess that the word has not", "abc", "xyz", "aw", false);
        fit("a wrong guess is followed, not the grid", "abc", "abc", "az", false);
        fit("no number without a guess gets a guessed letter", "abc", "xyz", "by,dx", false);
        fit("nor one that a number of the word has", "abc", "xyz", "ay", false);
        fit("other guesses do not matter", "abc", "xyz", "dw,ez", false);
        fit("others at all do not matter", "abc", "xyz", "dw,ev", true);
        fit("all guessed", "abc", "xyz", "ax,by,cz", true);
        fit("all guessed but one wrong", "abc", "xyz", "ax,by,cw", false);
        fit("seven letters", "abcdefg", "gfedcba", "", true);
        fit("the last two are unlike", "abcdeff", "abcdefg", "", false);
    }

    /** Guesses are pairs: a letter whose number (a is 1) is meant, and the letter guessed. */
    private static void fit(String what, String inGrid, String listed, String guesses, boolean due) {
        SoldLetters x = Checks.plain();
        Checks.row(x, 2, inGrid);
        Checks.words(x, listed);
        for (int i = 0; i + 1 < guesses.length(); i += 3) {
            x.guess(guesses.charAt(i) - 'a' + 1, guesses.charAt(i + 1));
        }
        Checks.due(what, x.fits(0, 0), due ? 1 : 0);
        Checks.due(what + ", the word says", x.word(0, 5), due ? 1 : 0);
        Checks.due(what + ", the listed one says", x.listed(0, 1), due ? 1 : 0);
        Checks.due(what + ", guessWord says", x.guessWord(0, 0) == -4 ? 0 : 1, due ? 1 : 0);
    }

    private static void listed() {
        SoldLetters x = Checks.plain();
        Checks.words(x, "xy,xyx,pqrst");
        Checks.row(x, 0, "cdc.ab");
        Checks.row(x, 1, "e.e.c");
        Checks.due("letters", x.listed(2, 0), 5);
        Checks.due("xy fits ab, ce, ce, ac", x.listed(0, 1), 4);
        Checks.due("its first is ab, a of one cell, b of one", x.listed(0, 2), 4);
        Checks.due("xyx fits cdc", x.listed(1, 1), 1);
        Checks.due("c of three, d of one, each once", x.listed(1, 2), 4 + 2);
        Checks.due("pqrst fits none", x.listed(2, 1), 0);
        Checks.due("and has no price", x.listed(2, 2), -5);
        x.guess(3, 'x');
        Checks.due("numbers with a guess cost nothing", x.listed(1, 2), 2);
        x.guess(4, 'y');
        Checks.due("all have guesses", x.listed(1, 2), 0);
        x.guess(4, 'z');
        Checks.due("no longer fits", x.listed(1, 2), -5);
        Checks.row(x, 0, "aaaaaaa");
        Checks.row(x, 1, "..aab");
        Checks.words(x, "xxy");
        Checks.due("at most nine each", x.listed(3, 2), 9 + 2);
    }

    private static void could() {
        SoldLetters x = Checks.plain();
        Checks.row(x, 0, "ab.c");
        Checks.due("all letters", x.could(1, 0), 26);
        Checks.due("a is the lowest", x.could(1, 1), 'a');
        x.guess(2, 'a');
        x.guess(26, 'b');
        Checks.due("but those that are guessed", x.could(1, 0), 24);
        Checks.due("c is the lowest", x.could(1, 1), 'c');
        x.guess(25, 'z');
        Checks.due("but z too", x.could(1, 0), 23);
        x.undo();
        Checks.words(x, "xyz");
        Checks.due("a list of none that fits does not matter", x.could(1, 0), 24);
        Checks.words(x, "pa,oa,op");
        Checks.due("what the two that fit have", x.could(1, 0), 2);
        Checks.due("o before p", x.could(1, 1), 'o');
        Checks.due("a cell in no word is free", x.could(3, 0), 24);
        Checks.due("free", x.could(3, 1), 'c');
        Checks.due("guessed", x.could(2, 0), -5);
        crossing();
    }

    private static void crossing() {
        SoldLetters x = Checks.plain();
        Checks.words(x, "xyz,wvx,pqr,xz,rs");
        Checks.row(x, 0, "abc");
        Checks.row(x, 1, "d");
        Checks.due("x and r are left by the word down, x of them by that across", x.could(1, 0), 1);
        Checks.due("x", x.could(1, 1), 'x');
        Checks.due("c stands in the word across alone", x.could(3, 0), 3);
        Checks.due("r", x.could(3, 1), 'r');
        Checks.due("d", x.could(4, 0), 2);
        Checks.row(x, 1, "c");
        Checks.due("c of z, x, r and of z, s", x.could(3, 0), 1);
        Checks.due("z", x.could(3, 1), 'z');
        Checks.row(x, 2, "abb");
        Checks.due("a word that none fits does not matter", x.could(2, 0), 3);
        SoldLetters y = Checks.plain();
        Checks.words(y, "xyz,pq");
        Checks.row(y, 0, "abc");
        Checks.row(y, 1, "d");
        Checks.due("x or p, no letter is both", y.could(1, 0), 0);
        Checks.due("no lowest", y.could(1, 1), -5);
    }
}
