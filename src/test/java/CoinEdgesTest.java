/** The boundaries of COINS: 0 and 999 of them, the price from 1 to 9, and of buy, check and give. */
public final class CoinEdgesTest {
    public static void main(String[] args) {
        thirtyAtFirst();
        upTo999();
        downTo0();
        oneTo99();
        eachPrice();
        justEnough();
        eachLetterIsSold();
        anothersGuess();
        ownGuess();
        checksOfNoneAndAll();
        countsOfSales();
        Checks.end();
    }

    /** An object of the rows that has so many coins, of at most 999; it has a word 0, and numbers from a, 1, to z, 26. */
    private static SoldLetters withCoins(int coins, String... rows) {
        SoldLetters x = Checks.plain(rows);
        for (int i = 0; i < 30 && x.count(3) > coins; i++) {
            x.check(0);
        }
        for (int i = 0; i < 10 && x.count(3) < coins; i++) {
            x.give(Math.min(99, coins - x.count(3)));
        }
        return x;
    }

    private static void thirtyAtFirst() {
        SoldLetters x = new SoldLetters();
        Checks.due("coins", x.count(3), 30);
        Checks.due("kept", x.keep(), 30);
        Checks.due("restored", x.restore(), 30);
        Checks.due("bought", x.count(8), 0);
        Checks.due("checks", x.count(9), 0);
    }

    /** "at most 999", "NONE if there are 999". */
    private static void upTo999() {
        for (int coins = 1; coins <= 99; coins++) {
            SoldLetters x = withCoins(900);
            Checks.due("900 and " + coins, x.give(coins), 900 + coins);
        }
        int[][] due = {{900, 99, 999}, {901, 99, 999}, {901, 98, 999}, {997, 1, 998}, {998, 1, 999}, {998, 2, 999}, {998, 99, 999}};
        for (int[] row : due) {
            SoldLetters x = withCoins(row[0], "ab");
            Checks.due(row[0] + " and " + row[1], x.give(row[1]), row[2]);
            Checks.due("told", x.count(3), row[2]);
            Checks.due("kept", x.keep(), row[2]);
            Checks.due("undo", x.undo(), 3);
            Checks.due("before", x.count(3), row[0]);
        }
        SoldLetters x = withCoins(999, "ab");
        Checks.due("999 and 1", x.give(1), SoldLetters.NONE);
        Checks.due("999 and 99", x.give(99), SoldLetters.NONE);
        x.check(0);
        Checks.due("998 and 1", x.give(1), 999);
    }

    /** "0 to 999": the last coin is spent, and none below. */
    private static void downTo0() {
        SoldLetters x = withCoins(1, "ab");
        Checks.due("the last coin", x.check(0), 0);
        Checks.due("no coin", x.count(3), 0);
        Checks.due("kept", x.keep(), 0);
        Checks.due("restored", x.restore(), 0);
        Checks.due("no check", x.check(0), SoldLetters.NOT_POSSIBLE);
        Checks.due("no letter", x.buy(1), SoldLetters.NOT_POSSIBLE);
        Checks.due("thirty checks", x.count(9), 30);
        Checks.due("one is given", x.give(1), 1);
        Checks.due("for a check", x.check(0), 0);
        Checks.due("no coin", x.count(3), 0);
    }

    /** "coins: 1 to 99". */
    private static void oneTo99() {
        for (int coins = -3; coins <= 110; coins++) {
            boolean isOne = coins >= 1 && coins <= 99;
            SoldLetters x = new SoldLetters();
            Checks.due("give " + coins, x.give(coins), isOne ? 30 + coins : SoldLetters.BAD_VALUE);
            Checks.due("then", x.count(3), isOne ? 30 + coins : 30);
        }
    }

    /** "1 and the cells that have it, but at most 9". */
    private static void eachPrice() {
        SoldLetters x = Checks.plain();
        for (int cells = 0; cells <= 49; cells++) {
            if (cells > 0) {
                Checks.row(x, (cells - 1) / 7, "aaaaaaa".substring(0, (cells - 1) % 7 + 1));
            }
            Checks.due("cells", x.number(1, 0), cells);
            Checks.due("the price of " + cells, x.number(1, 2), cells < 8 ? 1 + cells : 9);
            Checks.due("the price of another", x.number(26, 2), 1);
        }
    }

    /** "NOT_POSSIBLE if .. there are fewer coins than its price": as many as that, and one less. */
    private static void justEnough() {
        for (int cells = 1; cells <= 9; cells++) {
            int price = Math.min(9, 1 + cells);
            String[] rows = {"zz", "aaaaaaa".substring(0, Math.min(7, cells)), cells > 7 ? "aaa".substring(0, cells - 7) : "."};
            SoldLetters x = withCoins(price, rows);
            Checks.due(price + " coins for " + price, x.buy(1), 'a');
            Checks.due("none left", x.count(3), 0);
            SoldLetters y = withCoins(price - 1, rows);
            Checks.due(price - 1 + " coins for " + price, y.buy(1), SoldLetters.NOT_POSSIBLE);
            Checks.due("all left", y.count(3), price - 1);
            SoldLetters z = withCoins(price + 1, rows);
            Checks.due(price + 1 + " coins for " + price, z.buy(1), 'a');
            Checks.due("one left", z.count(3), 1);
        }
        Checks.due("one coin, no cells", withCoins(1, "zz").buy(1), SoldLetters.NONE);
        Checks.due("no coin, no cells", withCoins(0, "zz").buy(1), SoldLetters.NOT_POSSIBLE);
        SoldLetters all = withCoins(9, "aaaaaaa", "aaaaaaa", "aaaaaaa", "aaaaaaa", "aaaaaaa", "aaaaaaa", "aaaaaaa");
        Checks.due("nine for 49 cells", all.buy(1), 'a');
        Checks.due("none left", all.count(3), 0);
        Checks.due("solved", all.count(7), 1);
    }

    /** "the code of its letter": each letter, and its guess is that and fixed. */
    private static void eachLetterIsSold() {
        SoldLetters x = new SoldLetters();
        Checks.rows(x, "abcdefg", "hijklmn", "opqrstu", "vwxyz");
        x.give(99);
        for (int l = 0; l < 26; l++) {
            int number = x.cell(l / 7, l % 7, 0);
            Checks.due("coins", x.count(3), 129 - 2 * l);
            Checks.due("the letter of " + number, x.buy(number), 'a' + l);
            Checks.due("its guess", x.cell(l / 7, l % 7, 1), 'a' + l);
            Checks.due("fixed", x.number(number, 3), 1);
            Checks.due("bought", x.count(8), l + 1);
            Checks.due("solved", x.count(7), l == 25 ? 1 : 0);
        }
    }

    /** "if another number has this letter as its guess, that one has none then": the first, the last, one without cells. */
    private static void anothersGuess() {
        int[] others = {1, 2, 25, 26};
        for (int other : others) {
            SoldLetters x = Checks.plain("amz");
            x.guess(other, 'm');
            x.guess(3, 'q');
            Checks.due("m", x.buy(13), 'm');
            Checks.due("13 has it", x.number(13, 1), 'm');
            Checks.due(other + " has none", x.number(other, 1), SoldLetters.NONE);
            Checks.due("a third one stays", x.number(3, 1), 'q');
            Checks.due("undo", x.undo(), 3);
            Checks.due(other + " has it again", x.number(other, 1), 'm');
            Checks.due("13 has none", x.number(13, 1), SoldLetters.NONE);
        }
    }

    /** A number whose own guess is right already, or another letter. */
    private static void ownGuess() {
        SoldLetters x = Checks.plain("amz");
        x.guess(13, 'm');
        Checks.due("right already", x.buy(13), 'm');
        Checks.due("it stays", x.number(13, 1), 'm');
        Checks.due("fixed", x.number(13, 3), 1);
        x.guess(26, 'y');
        Checks.due("wrong before", x.buy(26), 'z');
        Checks.due("right now", x.number(26, 1), 'z');
        Checks.due("y is free", x.guess(1, 'y'), 3);
    }

    /** "how many of its cells have a guess that is not right": 0 without guesses, and up to all seven. */
    private static void checksOfNoneAndAll() {
        SoldLetters x = Checks.plain("abcdefg", "h");
        Checks.due("no guess", x.check(0), 0);
        for (int number = 1; number <= 7; number++) {
            x.guess(number, (char) ('s' + number));
            Checks.due("wrong guesses", x.check(0), number);
        }
        x.guess(8, 'h');
        Checks.due("of a and h one", x.check(1), 1);
        for (int number = 7; number >= 1; number--) {
            x.guess(number, (char) ('a' + number - 1));
            Checks.due("wrong guesses left", x.check(0), number - 1);
        }
        Checks.due("no more of a and h", x.check(1), 0);
        Checks.due("checks", x.count(9), 17);
        Checks.due("coins", x.count(3), 13);
        SoldLetters y = Checks.plain("aaaaaab");
        y.guess(1, 'b');
        Checks.due("cells, not numbers", y.check(0), 6);
        y.guess(2, 'a');
        Checks.due("all seven", y.check(0), 7);
    }

    /** "letters bought so far", "checks so far": setRow and setKey leave them, undo takes them back with the coins. */
    private static void countsOfSales() {
        SoldLetters x = Checks.plain("ab");
        x.buy(1);
        x.check(0);
        x.setRow(0);
        x.setKey(1, 1);
        x.buy(2);
        Checks.due("bought", x.count(8), 2);
        Checks.due("checks", x.count(9), 1);
        Checks.due("coins", x.count(3), 25);
        Checks.due("bought again, refused", x.buy(2), SoldLetters.NOT_POSSIBLE);
        Checks.due("bought", x.count(8), 2);
        for (int i = 0; i < 4; i++) {
            x.undo();
        }
        Checks.due("bought before", x.count(8), 1);
        Checks.due("checks before", x.count(9), 0);
        Checks.due("coins before", x.count(3), 28);
    }
}
