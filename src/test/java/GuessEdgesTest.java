/** The boundaries of GUESSES: none and all of them, the first and the last number and letter, and of guess and guessWord. */
public final class GuessEdgesTest {
    public static void main(String[] args) {
        noneAtFirst();
        firstAndLastNumber();
        firstAndLastLetter();
        noLetterTwice();
        allNumbersGuessed();
        takingBack();
        cellsWithAGuess();
        rightGuesses();
        fixedNumbers();
        wordsWithNoneAndAllGuessed();
        wordsOfTwoAndSevenNumbers();
        aNumberTwiceInAWord();
        couldBeAllOrNone();
        couldOfSeveralWords();
        couldOfAWordThatIsGone();
        couldOfAFullList();
        Checks.end();
    }

    /** "a guess, a letter, or none (at first)". */
    private static void noneAtFirst() {
        SoldLetters x = new SoldLetters();
        for (int number = 1; number <= 26; number++) {
            Checks.due("guess of " + number, x.number(number, 1), SoldLetters.NONE);
            Checks.due("fixed " + number, x.number(number, 3), 0);
        }
        Checks.due("numbers with a guess", x.count(5), 0);
        Checks.due("cells with a guess", x.count(6), 0);
    }

    /** "number: 1 to 26". */
    private static void firstAndLastNumber() {
        SoldLetters x = Checks.plain("az");
        Checks.due("0", x.guess(0, 'c'), SoldLetters.UNKNOWN);
        Checks.due("1", x.guess(1, 'c'), 1);
        Checks.due("26", x.guess(26, 'd'), 2);
        Checks.due("27", x.guess(27, 'e'), SoldLetters.UNKNOWN);
        Checks.due("guess of 1", x.number(1, 1), 'c');
        Checks.due("guess of 26", x.number(26, 1), 'd');
        Checks.due("guess of the first cell", x.cell(0, 0, 1), 'c');
        Checks.due("guess of the second cell", x.cell(0, 1, 1), 'd');
    }

    /** "letter: a to z, or "." to take it back": of all characters these alone. */
    private static void firstAndLastLetter() {
        SoldLetters x = Checks.plain("a");
        for (char letter = 'a'; letter <= 'z'; letter++) {
            Checks.due("guess " + letter, x.guess(1, letter), 1);
            Checks.due("then", x.number(1, 1), letter);
        }
        Checks.due("take it back", x.guess(1, '.'), 0);
        SoldLetters y = null;
        for (int character = 0; character <= 65535; character++) {
            if (character % 512 == 0) {
                y = new SoldLetters();
            }
            if (character != '.' && (character < 'a' || character > 'z')) {
                Checks.due("guess character " + character, y.guess(1, (char) character), SoldLetters.BAD_VALUE);
            }
        }
    }

    /** "no letter is the guess of two numbers": not even when one of them, or both, are in no cell. */
    private static void noLetterTwice() {
        SoldLetters x = Checks.plain("az");
        x.guess(1, 'q');
        Checks.due("of the last number too", x.guess(26, 'q'), SoldLetters.NOT_POSSIBLE);
        Checks.due("of one without cells", x.guess(2, 'q'), SoldLetters.NOT_POSSIBLE);
        Checks.due("of itself it is so already", x.guess(1, 'q'), SoldLetters.NONE);
        Checks.due("one without cells", x.guess(2, 'r'), 1);
        Checks.due("its letter for one with cells", x.guess(26, 'r'), SoldLetters.NOT_POSSIBLE);
        Checks.due("its letter for one without", x.guess(3, 'r'), SoldLetters.NOT_POSSIBLE);
        Checks.due("another for the first", x.guess(1, 's'), 1);
        Checks.due("its old one is free", x.guess(26, 'q'), 2);
        Checks.due("taken back", x.guess(2, '.'), 2);
        Checks.due("and free", x.guess(3, 'r'), 2);
    }

    /** All numbers may have a guess; then no other letter is left, and no two may change their letters at once. */
    private static void allNumbersGuessed() {
        SoldLetters x = Checks.plain("az");
        for (int number = 1; number <= 26; number++) {
            Checks.due("guess of " + number, x.guess(number, (char) ('z' + 1 - number)), number == 26 ? 2 : 1);
        }
        for (char letter = 'a'; letter <= 'z'; letter++) {
            int due = letter == 'z' ? SoldLetters.NONE : SoldLetters.NOT_POSSIBLE;
            Checks.due("1 as " + letter, x.guess(1, letter), due);
        }
        Checks.words(x, "za,zb,bc");
        Checks.due("its own guesses fit", x.word(0, 5), 1);
        Checks.due("all are guessed already", x.guessWord(0, 0), SoldLetters.NONE);
        Checks.due("bought, 26 has none", x.buy(1), 'a');
        Checks.due("none", x.number(26, 1), SoldLetters.NONE);
        Checks.due("z, which 1 had, is free", x.could(26, 0), 1);
        Checks.due("z", x.could(26, 1), 'z');
    }

    /** "or takes the guess back": once, then there is none. */
    private static void takingBack() {
        SoldLetters x = Checks.plain("aab");
        Checks.due("none to take back", x.guess(1, '.'), SoldLetters.NONE);
        Checks.due("two cells", x.guess(1, 'q'), 2);
        Checks.due("taken back", x.guess(1, '.'), 0);
        Checks.due("none", x.number(1, 1), SoldLetters.NONE);
        Checks.due("none to take back again", x.guess(1, '.'), SoldLetters.NONE);
        Checks.due("without cells", x.guess(26, 'q'), 0);
        Checks.due("taken back without cells", x.guess(26, '.'), 0);
    }

    /** "how many cells have a guess then": from none to 49. */
    private static void cellsWithAGuess() {
        SoldLetters x = Checks.plain("aaaaaaa", "aaaaaaa", "aaaaaaa", "aaaaaaa", "aaaaaaa", "aaaaaaa", "aaaaaab");
        Checks.due("one without cells", x.guess(3, 'c'), 0);
        Checks.due("one cell", x.guess(2, 'a'), 1);
        Checks.due("all cells", x.guess(1, 'b'), 49);
        Checks.due("told", x.count(6), 49);
        Checks.due("numbers, without that of no cell", x.count(5), 2);
        Checks.due("but one", x.guess(2, '.'), 48);
        Checks.due("of a new object", new SoldLetters().guess(26, 'z'), 0);
    }

    /** "A guess is right if the letter is that of the number": 1 if all cells' are, 0 if one is not, or has none. */
    private static void rightGuesses() {
        SoldLetters x = new SoldLetters();
        Checks.rows(x, "az", "m");
        x.guess(4, 'a');
        x.guess(23, 'z');
        Checks.due("one cell without a guess", x.count(7), 0);
        x.guess(10, 'n');
        Checks.due("one wrong guess", x.count(7), 0);
        x.guess(10, 'm');
        Checks.due("all right", x.count(7), 1);
        Checks.due("none wrong", x.check(0) + x.check(1), 0);
        x.guess(1, 'b');
        Checks.due("a wrong one without cells does not matter", x.count(7), 1);
        x.guess(4, 'c');
        Checks.due("the first cell's is wrong", x.count(7), 0);
        Checks.due("in the word across", x.check(0), 1);
        Checks.due("in the word down", x.check(1), 1);
    }

    /** "A bought number is fixed": until the key or a row is set, or the state is another. */
    private static void fixedNumbers() {
        SoldLetters x = Checks.plain("az");
        x.buy(26);
        Checks.due("26 is fixed", x.number(26, 3), 1);
        Checks.due("1 is not", x.number(1, 3), 0);
        Checks.due("no other letter", x.guess(26, 'q'), SoldLetters.NOT_POSSIBLE);
        Checks.due("not taken back", x.guess(26, '.'), SoldLetters.NOT_POSSIBLE);
        Checks.due("its own", x.guess(26, 'z'), SoldLetters.NOT_POSSIBLE);
        Checks.due("not bought again", x.buy(26), SoldLetters.NOT_POSSIBLE);
        x.setRow(0);
        Checks.due("a row frees it, even the same", x.guess(26, 'q'), 1);
        Checks.due("it may be bought again", x.buy(26), 'z');
        x.setKey(1, 1);
        Checks.due("the key frees it", x.number(26, 3), 0);
        Checks.due("its cell has number 1", x.buy(1), 'z');
        x.undo();
        Checks.due("undo frees it", x.number(1, 3), 0);
        x.undo();
        Checks.due("undo brings it back", x.guess(26, '.'), SoldLetters.NOT_POSSIBLE);
    }

    /** "how many numbers get a guess by that", "NONE if all its numbers have guesses already". */
    private static void wordsWithNoneAndAllGuessed() {
        for (int guessed = 0; guessed <= 7; guessed++) {
            SoldLetters x = Checks.plain("abcdefg");
            Checks.words(x, "tuvwxyz");
            for (int number = 7; number > 7 - guessed; number--) {
                x.guess(number, (char) ('s' + number));
            }
            Checks.due("guessed before", x.word(0, 4), guessed);
            Checks.due("guessWord", x.guessWord(0, 0), guessed == 7 ? SoldLetters.NONE : 7 - guessed);
            Checks.due("guessed then", x.word(0, 4), 7);
            Checks.due("the first", x.cell(0, 0, 1), 't');
            Checks.due("the last", x.cell(0, 6, 1), 'z');
        }
    }

    private static void wordsOfTwoAndSevenNumbers() {
        SoldLetters x = Checks.plain("ab", "c", "d", "e", "f", "g", "h");
        Checks.words(x, "pq,pqrstuv,vutsrqp");
        Checks.due("two", x.guessWord(0, 0), 2);
        Checks.due("of the other word one has a guess", x.guessWord(1, 1), SoldLetters.NOT_POSSIBLE);
        Checks.due("undo", x.undo(), 3);
        Checks.due("seven", x.guessWord(1, 2), 7);
        Checks.due("b has none", x.number(2, 1), SoldLetters.NONE);
        Checks.due("the last word of the list, the last cell", x.cell(6, 0, 1), 'p');
        Checks.due("a is v now", x.guessWord(0, 0), SoldLetters.NOT_POSSIBLE);
    }

    /** Numbers are counted, not cells. */
    private static void aNumberTwiceInAWord() {
        SoldLetters x = Checks.plain("aaaaaaa");
        Checks.words(x, "zzzzzzz");
        Checks.due("one number of seven cells", x.guessWord(0, 0), 1);
        Checks.due("seven cells", x.count(6), 7);
        SoldLetters y = Checks.plain("abababa");
        Checks.words(y, "zyzyzyz");
        Checks.due("two numbers of seven cells", y.guessWord(0, 0), 2);
    }

    /** "how many letters": from 26 to none; "the lowest one (NONE without one)". */
    private static void couldBeAllOrNone() {
        SoldLetters x = Checks.plain("z");
        for (int number = 1; number <= 25; number++) {
            Checks.due("letters left", x.could(26, 0), 27 - number);
            Checks.due("the lowest left", x.could(26, 1), 'a' + number - 1);
            x.guess(number, (char) ('a' + number - 1));
        }
        Checks.due("one letter", x.could(26, 0), 1);
        Checks.due("z", x.could(26, 1), 'z');
        x.guess(26, 'z');
        Checks.due("it has a guess", x.could(26, 0), SoldLetters.NONE);
        SoldLetters y = Checks.plain("abc", "d");
        Checks.words(y, "zyx,wv");
        Checks.due("z across, w down", y.could(1, 0), 0);
        Checks.due("no lowest", y.could(1, 1), SoldLetters.NONE);
        Checks.due("no cell has it", y.could(5, 0), SoldLetters.NONE);
    }

    /** "for each word of the grid that has the number and that any word of the list fits (others do not matter)". */
    private static void couldOfSeveralWords() {
        SoldLetters x = Checks.plain("abc", "d", "e..fg");
        Checks.due("no list", x.could(1, 0), 26);
        Checks.words(x, "xyzw,xx");
        Checks.due("a list of none that fits", x.could(1, 0), 26);
        Checks.words(x, "xyz,pqr");
        Checks.due("x or p, across and down", x.could(1, 0), 2);
        Checks.due("y or q, across", x.could(2, 0), 2);
        Checks.words(x, "st");
        Checks.due("s, of a word of another number alone", x.could(6, 1), 's');
        Checks.due("does not matter to the others", x.could(1, 0), 2);
        x.guess(4, 'q');
        Checks.due("p, as q is the guess down", x.could(1, 0), 0);
        Checks.due("pqr does not fit across any more", x.could(2, 1), 'y');
        x.guess(2, 'm');
        Checks.due("none fits across, so down alone matters", x.could(1, 1), 'p');
        Checks.due("c may be all but m and q", x.could(3, 0), 24);
    }

    /** The word down ends with the row, and what would fit it does not matter any more. */
    private static void couldOfAWordThatIsGone() {
        SoldLetters x = Checks.plain("ab", "c");
        Checks.row(x, 1, ".");
        Checks.words(x, "xy,zw");
        x.guess(2, 'y');
        Checks.due("one letter", x.could(1, 0), 1);
        Checks.due("x", x.could(1, 1), 'x');
    }

    private static void couldOfAFullList() {
        SoldLetters x = Checks.plain("ab");
        Checks.words(x, "za,zb,zc,zd,ze,zf,zg,zh,zi,zj,zk,zl");
        Checks.due("twelve letters", x.could(2, 0), 12);
        Checks.due("one letter", x.could(1, 0), 1);
        Checks.due("the last letter", x.could(1, 1), 'z');
        x.guess(26, 'a');
        Checks.due("eleven letters", x.could(2, 0), 11);
        Checks.due("the lowest", x.could(2, 1), 'b');
    }
}
