/** The boundaries of THE KEY: the factors, the shift, and the numbers from 1 to 26, which go round. */
public final class KeyEdgesTest {
    private static final int[] FACTORS = {1, 3, 5, 7, 9, 11, 15, 17, 19, 21, 23, 25};

    public static void main(String[] args) {
        atFirst();
        theFactorsAlone();
        firstAndLastShift();
        eachKey();
        numbersGoRound();
        guessesAreGone();
        partsOfTheKeyThatAreSoAlready();
        Checks.end();
    }

    /** "at first 7", "at first 3". */
    private static void atFirst() {
        SoldLetters x = new SoldLetters();
        Checks.due("factor", x.count(10), 7);
        Checks.due("shift", x.count(11), 3);
        Checks.due("it is so already", x.setKey(7, 3), SoldLetters.NONE);
        Checks.rows(x, "abcdefg", "hijklmn", "opqrstu", "vwxyz");
        eachNumber(x, 7, 3);
    }

    /** "one of the factors": all others about them are refused, the even ones, 13 and what is below 1 or above 25. */
    private static void theFactorsAlone() {
        for (int factor = -60; factor <= 60; factor++) {
            boolean isOne = false;
            for (int one : FACTORS) {
                isOne = isOne || one == factor;
            }
            SoldLetters x = new SoldLetters();
            Checks.due("factor " + factor, x.setKey(factor, 4), isOne ? 5 : SoldLetters.BAD_VALUE);
            Checks.due("the factor then", x.count(10), isOne ? factor : 7);
            Checks.due("the states then", x.count(12), isOne ? 1 : 0);
        }
        int[] far = {Integer.MIN_VALUE, Integer.MIN_VALUE + 1, 1 + 256, 1 + 65536, Integer.MAX_VALUE};
        for (int factor : far) {
            Checks.due("factor " + factor, new SoldLetters().setKey(factor, 4), SoldLetters.BAD_VALUE);
        }
    }

    /** "shift: 0 to 25"; the number of a is one more. */
    private static void firstAndLastShift() {
        for (int shift = -30; shift <= 56; shift++) {
            boolean isOne = shift >= 0 && shift <= 25;
            SoldLetters x = new SoldLetters();
            Checks.due("shift " + shift, x.setKey(25, shift), isOne ? shift + 1 : SoldLetters.BAD_VALUE);
            Checks.due("the shift then", x.count(11), isOne ? shift : 3);
            Checks.due("the factor then", x.count(10), isOne ? 25 : 7);
        }
    }

    /** "(factor * l + shift) modulo 26, and 1; so 1 to 26": for each factor and shift each letter a number of its own. */
    private static void eachKey() {
        for (int factor : FACTORS) {
            for (int shift = 0; shift <= 25; shift++) {
                SoldLetters x = new SoldLetters();
                Checks.rows(x, "abcdefg", "hijklmn", "opqrstu", "vwxyz");
                int due = factor == 7 && shift == 3 ? SoldLetters.NONE : shift + 1;
                Checks.due("the number of a", x.setKey(factor, shift), due);
                eachNumber(x, factor, shift);
            }
        }
    }

    private static void eachNumber(SoldLetters x, int factor, int shift) {
        String key = "under " + factor + ", " + shift;
        for (int l = 0; l < 26; l++) {
            int number = x.cell(l / 7, l % 7, 0);
            Checks.due("the number of letter " + l + " " + key, number, (factor * l + shift) % 26 + 1);
            Checks.due("its cells " + key, x.number(number, 0), 1);
        }
        Checks.due("all numbers " + key, x.count(4), 26);
    }

    /** The last number is 26, and 1 is behind it. */
    private static void numbersGoRound() {
        SoldLetters x = Checks.plain("yz");
        Checks.due("z is the last", x.cell(0, 1, 0), 26);
        x.setKey(1, 1);
        Checks.due("y is the last", x.cell(0, 0, 0), 26);
        Checks.due("z is the first", x.cell(0, 1, 0), 1);
        Checks.due("bought by the first number", x.buy(1), 'z');
        x.setKey(25, 0);
        Checks.due("turned, y is 3", x.cell(0, 0, 0), 3);
        Checks.due("turned, z is 2", x.cell(0, 1, 0), 2);
        Checks.row(x, 0, "ab");
        Checks.due("turned, a is 1", x.cell(0, 0, 0), 1);
        Checks.due("turned, b is 26", x.cell(0, 1, 0), 26);
        Checks.due("bought by the last number", x.buy(26), 'b');
        x.setKey(25, 25);
        Checks.due("turned, a is the last", x.cell(0, 0, 0), 26);
        Checks.due("turned, b is before it", x.cell(0, 1, 0), 25);
    }

    /** "all guesses are gone then, and nothing is fixed": those of the first and the last number too. */
    private static void guessesAreGone() {
        SoldLetters x = Checks.plain("abz");
        x.buy(1);
        x.buy(26);
        x.guess(2, 'q');
        x.guess(25, 'r');
        Checks.due("another shift", x.setKey(1, 25), 26);
        for (int number = 1; number <= 26; number++) {
            Checks.due("guess of " + number, x.number(number, 1), SoldLetters.NONE);
            Checks.due("fixed " + number, x.number(number, 3), 0);
        }
        Checks.due("coins stay", x.count(3), 26);
        Checks.due("bought stays", x.count(8), 2);
        Checks.due("words stay", x.count(1), 1);
        Checks.due("bought again", x.buy(26), 'a');
    }

    /** "NONE if it is so already": one of the two alone is not. */
    private static void partsOfTheKeyThatAreSoAlready() {
        SoldLetters x = new SoldLetters();
        Checks.due("the same factor", x.setKey(7, 0), 1);
        Checks.due("the same shift", x.setKey(25, 0), 1);
        Checks.due("both", x.setKey(25, 0), SoldLetters.NONE);
        Checks.due("two states", x.count(12), 2);
        Checks.due("back", x.setKey(7, 3), 4);
        Checks.due("undo", x.undo(), 2);
        Checks.due("so already after undo", x.setKey(25, 0), SoldLetters.NONE);
    }
}
