/** The first and the last of each question's kinds (promises 16 to 22), with the least and the most they answer. */
public final class AnswerEdgesTest {
    public static void main(String[] args) {
        constants();
        kindsOfCells();
        kindsOfNumbers();
        kindsOfWords();
        kindsOfListed();
        kindsOfCould();
        leastCounts();
        mostCounts();
        Checks.end();
    }

    private static void constants() {
        Checks.due("UNKNOWN", SoldLetters.UNKNOWN, -1);
        Checks.due("BAD_VALUE", SoldLetters.BAD_VALUE, -2);
        Checks.due("FULL", SoldLetters.FULL, -3);
        Checks.due("NOT_POSSIBLE", SoldLetters.NOT_POSSIBLE, -4);
        Checks.due("NONE", SoldLetters.NONE, -5);
    }

    /** From what, -1 to one more than there are kinds, as the object answers. */
    private interface Question {
        int ask(SoldLetters x, int what);
    }

    private static void kinds(String name, Question question, int... dues) {
        SoldLetters x = new SoldLetters();
        Games.game(x);
        Checks.due(name + ", -1", question.ask(x, -1), SoldLetters.BAD_VALUE);
        for (int what = 0; what < dues.length; what++) {
            Checks.due(name + ", " + what, question.ask(x, what), dues[what]);
        }
        Checks.due(name + ", " + dues.length, question.ask(x, dues.length), SoldLetters.BAD_VALUE);
    }

    /** 0 number, 1 guess, 2 word across, 3 word down. */
    private static void kindsOfCells() {
        kinds("the first cell", (x, what) -> x.cell(0, 0, what), 1, 'a', 0, 2);
        kinds("a cell of the last words", (x, what) -> x.cell(1, 5, what), 1, 'a', 1, 3);
        kinds("a cell of a word across", (x, what) -> x.cell(0, 1, what), 2, -5, 0, -5);
        kinds("a cell of a word down", (x, what) -> x.cell(0, 5, what), 3, 'q', -5, 3);
        kinds("a cell in no word", (x, what) -> x.cell(2, 1, what), 5, -5, -5, -5);
        kinds("the last cell", (x, what) -> x.cell(6, 6, what), -5, -5, -5, -5);
    }

    /** 0 cells, 1 guess, 2 price, 3 fixed, 4 words. */
    private static void kindsOfNumbers() {
        kinds("the first number", (x, what) -> x.number(1, what), 3, 'a', 4, 1, 4);
        kinds("one without a guess", (x, what) -> x.number(2, what), 3, -5, 4, 0, 2);
        kinds("one with a guess", (x, what) -> x.number(3, what), 1, 'q', 2, 0, 1);
        kinds("one in no word", (x, what) -> x.number(5, what), 1, -5, 2, 0, 0);
        kinds("the last number", (x, what) -> x.number(26, what), 0, -5, 1, 0, 0);
    }

    /** 0 row, 1 column, 2 cells, 3 down, 4 guessed cells, 5 words that fit, 6 the first of them. */
    private static void kindsOfWords() {
        kinds("abba", (x, what) -> x.word(0, what), 0, 0, 4, 0, 2, 1, 2);
        kinds("ab", (x, what) -> x.word(1, what), 1, 5, 2, 0, 1, 0, -5);
        kinds("ad", (x, what) -> x.word(2, what), 0, 0, 2, 1, 1, 0, -5);
        kinds("ca", (x, what) -> x.word(3, what), 0, 5, 2, 1, 2, 0, -5);
    }

    /** 0 letters, 1 words that it fits, 2 the price of the rest. */
    private static void kindsOfListed() {
        kinds("xyyx", (x, what) -> x.listed(0, what), 4, 0, -5);
        kinds("ayya", (x, what) -> x.listed(2, what), 4, 1, 4);
        kinds("aq", (x, what) -> x.listed(3, what), 2, 0, -5);
    }

    /** 0 how many letters, 1 the lowest. */
    private static void kindsOfCould() {
        kinds("in abba", (x, what) -> x.could(2, what), 1, 'y');
        kinds("in a word that none fits", (x, what) -> x.could(4, what), 24, 'b');
        kinds("in no word", (x, what) -> x.could(5, what), 24, 'b');
        kinds("fixed", (x, what) -> x.could(1, what), -5, -5);
    }

    private static void leastCounts() {
        SoldLetters x = new SoldLetters();
        int[] dues = {0, 0, 0, 30, 0, 0, 0, 0, 0, 0, 7, 3, 0, 0};
        Checks.due("count -1", x.count(-1), SoldLetters.BAD_VALUE);
        for (int what = 0; what < dues.length; what++) {
            Checks.due("count " + what + " of a new object", x.count(what), dues[what]);
        }
        Checks.due("count 14", x.count(14), SoldLetters.BAD_VALUE);
    }

    /** All letters in a full grid, a full list, a full history and a full text. */
    private static void mostCounts() {
        SoldLetters x = new SoldLetters();
        Checks.words(x, Games.TWELVE);
        x.setKey(25, 25);
        Checks.rows(x, "abcdefg", "hijklmn", "opqrstu", "vwxyzab", "cdefghi", "jklmnop", "qrstuvw");
        Checks.text(x, Games.SIXTY);
        x.give(99);
        x.check(13);
        for (int number = 1; number <= 26; number++) {
            int price = number < 4 ? 2 : 3;
            Checks.due("the price of " + number, x.number(number, 2), price);
            Checks.due("the letter of " + number, x.buy(number), 'z' + 1 - number);
        }
        int[] dues = {49, 14, 12, 128 - 3 * 2 - 23 * 3, 26, 26, 49, 1, 26, 1, 25, 25, 4, 60};
        for (int what = 0; what < dues.length; what++) {
            Checks.due("count " + what, x.count(what), dues[what]);
        }
    }
}
