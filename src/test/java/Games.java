/** Objects that refused calls are tried on, and values that are far out. */
final class Games {
    static final String TWELVE = "aa,ab,ac,ad,ae,af,ag,ah,ai,aj,ak,al";
    static final String SIXTY = "abcdefg,abcdef,abcde,bcdefg,bcdef,bcde,cdefghi,defghij,efghi";

    private Games() {
    }

    /** The last below and the first above the values from first to last, and those farthest from them. */
    static int[] outside(int first, int last) {
        return new int[] {Integer.MIN_VALUE, first - 1, last + 1, Integer.MAX_VALUE};
    }

    /**
     * A game in which all has something to lose: a is 1, b is 2 and so on; the words are abba (0) and ab (1) across,
     * ad (2) and ca (3) down, and e is in none; 1 is fixed, 3 is guessed as q; the history is full; the snapshot is
     * another state; the text is one of a row and one of words.
     */
    static void game(SoldLetters x) {
        x.setKey(1, 0);
        Checks.words(x, "xyyx,xyxy,ayya,aq");
        Checks.rows(x, "abba.c", "d....ab", ".e");
        x.guess(2, 'm');
        x.keep();
        x.guess(2, '.');
        x.give(2);
        x.guess(3, 'q');
        x.buy(1);
        Checks.text(x, "ab");
    }

    /** As game, with so many coins, of at most 28, and a history of checks. */
    static void coins(SoldLetters x, int left) {
        game(x);
        for (int i = 0; i < 30 && x.count(3) > left; i++) {
            x.check(0);
        }
    }

    /** As game, with all the coins that there can be. */
    static void rich(SoldLetters x) {
        game(x);
        for (int i = 0; i < 10; i++) {
            x.give(99);
        }
    }

    /** As game, with a full list. */
    static void full(SoldLetters x) {
        game(x);
        for (int i = 0; i < 12 && x.count(2) > 0; i++) {
            x.dropWord(0);
        }
        Checks.words(x, TWELVE);
    }
}
