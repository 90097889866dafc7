/** The boundaries of THE LIST: none to twelve words, their lengths, all unlike, what fits, and what dropWord moves. */
public final class ListEdgesTest {
    private static final String[] LONGER = {"ab", "abc", "abcd", "abcde", "abcdef", "abcdefg"};

    public static void main(String[] args) {
        emptyAtFirst();
        atMostTwelve();
        upToTwelveAtOnce();
        fullThoughSomeAreThere();
        fullAndEmptyAgain();
        eachLength();
        allUnlike();
        twiceInTheText();
        inTheirOrder();
        dropFirstAndLast();
        dropBeforeTheLongest();
        dropTheOnlyOne();
        dropOfTwelve();
        asLong();
        guessedLetters();
        sameNumbers();
        lettersGuessedElsewhere();
        noneAndAllFit();
        fitsEachWordOfTheGrid();
        pricesOfTheRest();
        Checks.end();
    }

    private static void emptyAtFirst() {
        SoldLetters x = Checks.plain("ab");
        Checks.due("words of the list", x.count(2), 0);
        Checks.due("no word 0", x.listed(0, 0), SoldLetters.UNKNOWN);
        Checks.due("none to drop", x.dropWord(0), SoldLetters.UNKNOWN);
        Checks.due("none fits", x.word(0, 5), 0);
        Checks.due("none is first", x.word(0, 6), SoldLetters.NONE);
        Checks.due("none to ask for", x.fits(0, 0), SoldLetters.UNKNOWN);
        Checks.due("none to guess", x.guessWord(0, 0), SoldLetters.UNKNOWN);
    }

    /** "at most 12 words": one by one, and no thirteenth. */
    private static void atMostTwelve() {
        SoldLetters x = new SoldLetters();
        for (int listed = 0; listed < 12; listed++) {
            Checks.due("word " + listed, Checks.words(x, "z" + (char) ('a' + listed)), 1);
            Checks.due("words then", x.count(2), listed + 1);
            Checks.due("it is there", x.listed(listed, 0), 2);
            Checks.due("none behind it", x.listed(listed + 1, 0), SoldLetters.UNKNOWN);
        }
        Checks.due("a thirteenth", Checks.words(x, "zz"), SoldLetters.FULL);
        Checks.due("one that is there", Checks.words(x, "za"), SoldLetters.NONE);
        Checks.due("twelve", x.count(2), 12);
    }

    private static void upToTwelveAtOnce() {
        Checks.due("twelve at once", Checks.words(new SoldLetters(), Games.TWELVE), 12);
        Checks.due("thirteen at once", Checks.words(new SoldLetters(), Games.TWELVE + ",bb"), SoldLetters.FULL);
        Checks.due("thirteen, one of them twice", Checks.words(new SoldLetters(), Games.TWELVE + ",al"), 12);
        Checks.due("twenty, all but twelve twice", Checks.words(new SoldLetters(), Games.TWELVE + ",aa,ab,ac,ad,ae,af,ag,ah"), 12);
        Checks.due("twenty, thirteen unlike", Checks.words(new SoldLetters(), Games.TWELVE + ",aa,ab,ac,ad,ae,af,ag,zz"), SoldLetters.FULL);
    }

    /** "FULL if the list would have more than 12": words that are on it already do not count. */
    private static void fullThoughSomeAreThere() {
        SoldLetters x = new SoldLetters();
        Checks.words(x, "aa,ab,ac,ad,ae,af,ag,ah,ai,aj");
        Checks.due("three to ten", Checks.words(x, "ba,bb,bc"), SoldLetters.FULL);
        Checks.due("none of them came", x.count(2), 10);
        Checks.due("three to ten, one of them there", Checks.words(x, "ba,aa,bc"), 2);
        Checks.due("twelve", x.count(2), 12);
        Checks.due("all there", Checks.words(x, "bc,ba,aj"), SoldLetters.NONE);
        Checks.due("one of them not", Checks.words(x, "bc,ba,bb"), SoldLetters.FULL);
    }

    private static void fullAndEmptyAgain() {
        SoldLetters x = new SoldLetters();
        Checks.words(x, Games.TWELVE);
        for (int left = 11; left >= 0; left--) {
            Checks.due("left", x.dropWord(left % 2 == 0 ? 0 : left), left);
        }
        Checks.due("none left", x.dropWord(0), SoldLetters.UNKNOWN);
        Checks.due("twelve again", Checks.words(x, Games.TWELVE), 12);
    }

    /** "2 to 7 letters each": one letter and eight are faults. */
    private static void eachLength() {
        for (int length = 0; length <= 9; length++) {
            SoldLetters x = new SoldLetters();
            int due = length < 2 ? -100 - length : length > 7 ? -107 : 1;
            Checks.due("a word of " + length, Checks.words(x, "abcdefghi".substring(0, length)), due);
            Checks.due("its letters", x.listed(0, 0), due == 1 ? length : SoldLetters.UNKNOWN);
        }
    }

    /** "all unlike": words that are like another but for the last letter, the first, or one more, are unlike. */
    private static void allUnlike() {
        SoldLetters x = new SoldLetters();
        Checks.due("of each length", Checks.words(x, String.join(",", LONGER)), 6);
        Checks.due("there already", Checks.words(x, "abcdefg"), SoldLetters.NONE);
        Checks.due("the last letter", Checks.words(x, "abcdefz"), 1);
        Checks.due("the first letter", Checks.words(x, "zbcdefg"), 1);
        Checks.due("the other way round", Checks.words(x, "ba"), 1);
        Checks.due("nine", x.count(2), 9);
        Checks.due("all of them", Checks.words(x, "ba,zbcdefg,abcdefz,ab,abc"), SoldLetters.NONE);
    }

    private static void twiceInTheText() {
        SoldLetters x = new SoldLetters();
        Checks.due("twice", Checks.words(x, "qq,qq"), 1);
        Checks.due("one there, one new twice, one once", Checks.words(x, "rr,qq,rr,ss,rr"), 2);
        Checks.due("one that the other begins with", Checks.words(x, "tt,ttt,tt,ttt"), 2);
        Checks.due("five", x.count(2), 5);
        Checks.due("the last", x.listed(4, 0), 3);
    }

    /** "in their order", behind those that are there. */
    private static void inTheirOrder() {
        SoldLetters x = new SoldLetters();
        Checks.words(x, "abcd");
        Checks.words(x, "abcdefg,ab,abcd,abcdef,ab,abc");
        int[] lengths = {4, 7, 2, 6, 3};
        for (int listed = 0; listed < lengths.length; listed++) {
            Checks.due("letters of " + listed, x.listed(listed, 0), lengths[listed]);
        }
        Checks.due("no sixth", x.listed(5, 0), SoldLetters.UNKNOWN);
    }

    private static SoldLetters longer() {
        SoldLetters x = Checks.plain("abcdefg");
        Checks.words(x, String.join(",", LONGER));
        return x;
    }

    /** "later ones have one number less". */
    private static void dropFirstAndLast() {
        for (int dropped = 0; dropped < 6; dropped++) {
            SoldLetters x = longer();
            Checks.due("left without " + dropped, x.dropWord(dropped), 5);
            for (int listed = 0; listed < 5; listed++) {
                Checks.due("letters of " + listed, x.listed(listed, 0), listed < dropped ? listed + 2 : listed + 3);
            }
            Checks.due("no sixth", x.listed(5, 0), SoldLetters.UNKNOWN);
            Checks.due("no sixth to drop", x.dropWord(5), SoldLetters.UNKNOWN);
            Checks.due("the first that fits", x.word(0, 6), dropped == 5 ? SoldLetters.NONE : 4);
            Checks.due("it may come again", Checks.words(x, LONGER[dropped]), 1);
            Checks.due("as the last", x.listed(5, 0), dropped + 2);
        }
    }

    /** All letters of the longest word stay in their places when it moves. */
    private static void dropBeforeTheLongest() {
        SoldLetters x = Checks.plain("abcdefg");
        Checks.words(x, "zz,yy,tuvwxyz");
        x.dropWord(0);
        x.dropWord(0);
        Checks.due("it fits", x.guessWord(0, 0), 7);
        for (int column = 0; column < 7; column++) {
            Checks.due("letter " + column, x.cell(0, column, 1), 't' + column);
        }
    }

    private static void dropTheOnlyOne() {
        SoldLetters x = Checks.plain("ab");
        Checks.words(x, "xy");
        Checks.due("it fits", x.word(0, 5), 1);
        Checks.due("none left", x.dropWord(0), 0);
        Checks.due("none fits", x.word(0, 5), 0);
        Checks.due("none to drop", x.dropWord(0), SoldLetters.UNKNOWN);
        Checks.due("undo", x.undo(), 3);
        Checks.due("it fits again", x.fits(0, 0), 1);
    }

    private static void dropOfTwelve() {
        SoldLetters x = Checks.plain("ab");
        Checks.words(x, Games.TWELVE);
        Checks.due("aa alone does not fit", x.word(0, 5), 11);
        Checks.due("the first of twelve", x.dropWord(0), 11);
        Checks.due("ab is the first", x.word(0, 6), 0);
        Checks.due("al is the last", x.guessWord(0, 10), 2);
        Checks.due("l", x.cell(0, 1, 1), 'l');
        Checks.due("no twelfth", x.listed(11, 0), SoldLetters.UNKNOWN);
        Checks.due("the last of eleven", x.dropWord(10), 10);
        Checks.due("none fits to al", x.word(0, 5), 0);
    }

    private static void fit(String what, String row, String word, String guesses, int due) {
        SoldLetters x = Checks.plain(".", ".", ".", ".", ".", row, "..j");
        Checks.words(x, word);
        for (int i = 0; i < guesses.length(); i += 2) {
            x.guess(guesses.charAt(i) - 'a' + 1, guesses.charAt(i + 1));
        }
        Checks.due(what + ", fits", x.fits(0, 0), due);
        Checks.due(what + ", word", x.word(0, 5), due);
        Checks.due(what + ", first", x.word(0, 6), due == 1 ? 0 : SoldLetters.NONE);
        Checks.due(what + ", listed", x.listed(0, 1), due);
        Checks.due(what + ", guessWord", x.guessWord(0, 0) == SoldLetters.NOT_POSSIBLE ? 0 : 1, due);
    }

    /** "if it is as long". */
    private static void asLong() {
        for (int cells = 2; cells <= 7; cells++) {
            for (int letters = 2; letters <= 7; letters++) {
                String row = "abcdefg".substring(0, cells);
                SoldLetters x = Checks.plain(row);
                Checks.words(x, "tuvwxyz".substring(0, letters));
                Checks.due(letters + " letters in " + cells, x.fits(0, 0), cells == letters ? 1 : 0);
            }
        }
    }

    /** "each cell that has a number with a guess gets this letter": the first, the last, all, right guesses or not. */
    private static void guessedLetters() {
        fit("no guess", "ab", "xy", "", 1);
        fit("the first cell's", "ab", "xy", "ax", 1);
        fit("the first cell's not", "ab", "xy", "aw", 0);
        fit("the last cell's", "abcdefg", "tuvwxyz", "gz", 1);
        fit("the last cell's not", "abcdefg", "tuvwxyz", "gs", 0);
        fit("the right guess is another", "ab", "xy", "aa", 0);
        fit("the right letters by a wrong guess", "ab", "ab", "az", 0);
        fit("all cells'", "ab", "xy", "axby", 1);
        fit("all but the last cell's", "ab", "xy", "axbz", 0);
        fit("the two the other way round", "ab", "xy", "aybx", 0);
    }

    /** "each two cells with the same number the same letter, each two with unlike numbers unlike ones". */
    private static void sameNumbers() {
        fit("two alike", "aa", "xx", "", 1);
        fit("one number, two letters", "aa", "xy", "", 0);
        fit("two numbers, one letter", "ab", "xx", "", 0);
        fit("the first and the last", "abcdefa", "tuvwxyt", "", 1);
        fit("the first and the last unlike", "abcdefa", "tuvwxyz", "", 0);
        fit("the first and the last alike", "abcdefg", "tuvwxyt", "", 0);
        fit("the last two", "abcdeff", "tuvwxyy", "", 1);
        fit("the last two unlike", "abcdeff", "tuvwxyz", "", 0);
        fit("the last two alike", "abcdefg", "tuvwxyy", "", 0);
        fit("all seven", "aaaaaaa", "zzzzzzz", "", 1);
        fit("all but one", "aaaaaaa", "zzzyzzz", "", 0);
        fit("a guess at both cells", "aba", "xyx", "ax", 1);
        fit("a guess at one of both cells", "aba", "xyz", "ax", 0);
    }

    /** "no cell whose number has no guess a letter that is the guess of any number": of one in no cell too. */
    private static void lettersGuessedElsewhere() {
        fit("of one in the word", "ab", "xy", "ay", 0);
        fit("of one in another cell", "ab", "xy", "jx", 0);
        fit("of one in no cell", "ab", "xy", "zx", 0);
        fit("of the first number", "bc", "xy", "ay", 0);
        fit("of the last cell alone", "abcdefg", "tuvwxyz", "zz", 0);
        fit("not a letter of the word", "ab", "xy", "zw", 1);
        fit("not a letter of the word, but for one cell", "ab", "xy", "zwax", 1);
    }

    private static void noneAndAllFit() {
        SoldLetters x = Checks.plain("ab");
        Checks.words(x, "zy,za,zb,zc,zd,ze,zf,zg,zh,zi,zj,zk");
        Checks.due("all twelve", x.word(0, 5), 12);
        Checks.due("the first", x.word(0, 6), 0);
        x.guess(2, 'k');
        Checks.due("one", x.word(0, 5), 1);
        Checks.due("the last", x.word(0, 6), 11);
        x.guess(2, 'l');
        Checks.due("none", x.word(0, 5), 0);
        Checks.due("no first", x.word(0, 6), SoldLetters.NONE);
    }

    /** "1 for how many words of the grid it fits": none, one across or down, all. */
    private static void fitsEachWordOfTheGrid() {
        SoldLetters x = Checks.plain("aaaaaaa", "bbbbbbb", "ccccccc", "ddddddd", "eeeeeee", "fffffff", "ggggggg");
        Checks.words(x, "zzzzzzz,tuvwxyz,zz");
        Checks.due("all across", x.listed(0, 1), 7);
        Checks.due("all down", x.listed(1, 1), 7);
        Checks.due("none", x.listed(2, 1), 0);
        x.guess(7, 'z');
        Checks.due("the last across", x.listed(0, 1), 1);
        Checks.due("all down, which end in z", x.listed(1, 1), 7);
        Checks.due("nothing of it is to be paid", x.listed(0, 2), 0);
        Checks.due("six letters of it are", x.listed(1, 2), 6 * 8);
        x.guess(7, 'y');
        Checks.due("six across", x.listed(0, 1), 6);
        Checks.due("none down", x.listed(1, 1), 0);
        Checks.due("no price", x.listed(1, 2), SoldLetters.NONE);
    }

    /** "the sum of the prices of all numbers without a guess in the first of these, each once (0 if all have guesses)". */
    private static void pricesOfTheRest() {
        SoldLetters x = Checks.plain("aa", "bb.cb", ".", "aaaaaa");
        Checks.words(x, "zz,zy");
        Checks.due("a of eight cells, once", x.listed(0, 2), 9);
        Checks.row(x, 3, "aaaaa");
        Checks.due("a of seven cells", x.listed(0, 2), 8);
        Checks.row(x, 3, "aaaaaaa");
        Checks.due("a of nine cells, at most nine", x.listed(0, 2), 9);
        Checks.due("c of one cell, b of three", x.listed(1, 2), 2 + 4);
        x.guess(3, 'z');
        Checks.due("b alone", x.listed(1, 2), 4);
        x.guess(2, 'y');
        Checks.due("all have guesses", x.listed(1, 2), 0);
        x.guess(2, 'x');
        Checks.due("another letter, and it fits none", x.listed(1, 2), SoldLetters.NONE);
    }
}
