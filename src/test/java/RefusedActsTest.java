/** Each error of the @return lines of promises 2 to 15, in the order of the checks; a refused call changes nothing. */
public final class RefusedActsTest {
    private static final int UNKNOWN = SoldLetters.UNKNOWN;
    private static final int BAD_VALUE = SoldLetters.BAD_VALUE;
    private static final int FULL = SoldLetters.FULL;
    private static final int NOT_POSSIBLE = SoldLetters.NOT_POSSIBLE;
    private static final int NONE = SoldLetters.NONE;

    public static void main(String[] args) {
        setRow();
        setKey();
        addWords();
        addWordsToAFullList();
        dropWord();
        guess();
        guessInOrder();
        guessWord();
        buy();
        check();
        give();
        type();
        undo();
        restore();
        Checks.end();
    }

    private static Checks.Script game(String text) {
        return x -> { Games.game(x); Checks.text(x, text); };
    }

    /** UNKNOWN; -100 minus the fault of the text as a row. */
    private static void setRow() {
        for (int row : Games.outside(0, 6)) {
            Checks.refused("setRow " + row, Games::game, x -> x.setRow(row), UNKNOWN);
            Checks.refused("setRow " + row + " of a new object", x -> Checks.text(x, "ab"), x -> x.setRow(row), UNKNOWN);
            Checks.refused("setRow " + row + " of a fault", game("a?"), x -> x.setRow(row), UNKNOWN);
        }
        Checks.refused("setRow without a text", game(""), x -> x.setRow(0), -100);
        Checks.refused("setRow without a text, new", x -> { }, x -> x.setRow(6), -100);
        for (int fault = 0; fault <= 7; fault++) {
            String text = "ab.defg".substring(0, fault) + "?";
            Checks.refused("setRow " + text, game(text), x -> x.setRow(0), -100 - fault);
        }
        Checks.refused("setRow of eight letters", game("abcdefgh"), x -> x.setRow(6), -107);
        Checks.refused("setRow of sixty letters", game(Games.SIXTY.replace(',', 'z')), x -> x.setRow(0), -107);
    }

    /** BAD_VALUE; NONE if it is so already. */
    private static void setKey() {
        int[] factors = {Integer.MIN_VALUE, -25, -1, 0, 2, 13, 24, 26, 27, 39, Integer.MAX_VALUE};
        for (int factor : factors) {
            Checks.refused("factor " + factor, Games::game, x -> x.setKey(factor, 0), BAD_VALUE);
        }
        for (int shift : Games.outside(0, 25)) {
            Checks.refused("shift " + shift, Games::game, x -> x.setKey(1, shift), BAD_VALUE);
            Checks.refused("shift " + shift + " of a new object", x -> { }, x -> x.setKey(7, shift), BAD_VALUE);
            Checks.refused("both, shift " + shift, Games::game, x -> x.setKey(13, shift), BAD_VALUE);
        }
        Checks.refused("the key that is", Games::game, x -> x.setKey(1, 0), NONE);
        Checks.refused("the key at first", x -> { }, x -> x.setKey(7, 3), NONE);
    }

    /** -100 minus the fault of the text as words; NONE if none comes. */
    private static void addWords() {
        Checks.refused("addWords without a text", game(""), SoldLetters::addWords, -100);
        Checks.refused("addWords without a text, new", x -> { }, SoldLetters::addWords, -100);
        String[] texts = {"?", "a", "a?", "qr?", "qr,", "qr,s", "qr,st.", "qrstuvwx"};
        int[] faults = {0, 1, 1, 2, 3, 4, 5, 7};
        for (int i = 0; i < texts.length; i++) {
            Checks.refused("addWords " + texts[i], game(texts[i]), SoldLetters::addWords, -100 - faults[i]);
        }
        Checks.refused("a word that is there", game("ayya"), SoldLetters::addWords, NONE);
        Checks.refused("all words that are there", game("aq,ayya,xyyx,aq,xyxy"), SoldLetters::addWords, NONE);
        Checks.refused("a fault before NONE", game("ayya,"), SoldLetters::addWords, -105);
    }

    /** The fault before FULL; FULL if the list would have more than 12; NONE if none comes to it. */
    private static void addWordsToAFullList() {
        Checks.refused("the thirteenth", x -> { Games.full(x); Checks.text(x, "bb"); }, SoldLetters::addWords, FULL);
        Checks.refused("one that is there, one that is not", x -> { Games.full(x); Checks.text(x, "aa,bb"); }, SoldLetters::addWords, FULL);
        Checks.refused("thirteen at once", x -> Checks.text(x, Games.TWELVE + ",bb"), SoldLetters::addWords, FULL);
        Checks.refused("nine to four", game(Games.SIXTY), SoldLetters::addWords, FULL);
        Checks.refused("two to eleven", x -> { Games.full(x); x.dropWord(5); Checks.text(x, "bb,cc"); }, SoldLetters::addWords, FULL);
        Checks.refused("a fault before FULL", x -> { Games.full(x); Checks.text(x, "bb,c"); }, SoldLetters::addWords, -104);
        Checks.refused("none to a full list", x -> { Games.full(x); Checks.text(x, "al,aa"); }, SoldLetters::addWords, NONE);
        Checks.refused("all to a full list", x -> { Games.full(x); Checks.text(x, Games.TWELVE); }, SoldLetters::addWords, NONE);
    }

    /** UNKNOWN. */
    private static void dropWord() {
        for (int word : Games.outside(0, 3)) {
            Checks.refused("dropWord " + word, Games::game, x -> x.dropWord(word), UNKNOWN);
        }
        for (int word : Games.outside(0, 11)) {
            Checks.refused("dropWord " + word + " of twelve", Games::full, x -> x.dropWord(word), UNKNOWN);
        }
        Checks.refused("dropWord of an empty list", x -> { }, x -> x.dropWord(0), UNKNOWN);
    }

    /** UNKNOWN; BAD_VALUE; NOT_POSSIBLE if the number is fixed or the letter another's guess; NONE if it is so already. */
    private static void guess() {
        for (int number : Games.outside(1, 26)) {
            Checks.refused("guess of " + number, Games::game, x -> x.guess(number, 'z'), UNKNOWN);
            Checks.refused("taking back of " + number, Games::game, x -> x.guess(number, '.'), UNKNOWN);
            Checks.refused("guess of " + number + ", new", x -> { }, x -> x.guess(number, 'a'), UNKNOWN);
        }
        char[] bad = {0, ' ', ',', '-', '/', '1', 'A', 'Z', '`', '{', 'a' + 128, 'a' + 256, '.' + 256, 'a' + 512, 65535};
        for (char letter : bad) {
            Checks.refused("guess as character " + (int) letter, Games::game, x -> x.guess(2, letter), BAD_VALUE);
        }
        Checks.refused("a fixed number", Games::game, x -> x.guess(1, 'z'), NOT_POSSIBLE);
        Checks.refused("a fixed number's guess taken back", Games::game, x -> x.guess(1, '.'), NOT_POSSIBLE);
        Checks.refused("the letter of a fixed number", Games::game, x -> x.guess(2, 'a'), NOT_POSSIBLE);
        Checks.refused("the letter of another number", Games::game, x -> x.guess(2, 'q'), NOT_POSSIBLE);
        Checks.refused("for a number without cells", Games::game, x -> x.guess(26, 'q'), NOT_POSSIBLE);
        Checks.refused("in place of another guess", x -> { Games.game(x); x.guess(2, 'r'); }, x -> x.guess(3, 'r'), NOT_POSSIBLE);
        Checks.refused("the letter of a number without cells", x -> { Games.game(x); x.guess(26, 'w'); }, x -> x.guess(2, 'w'), NOT_POSSIBLE);
        Checks.refused("so already", Games::game, x -> x.guess(3, 'q'), NONE);
        Checks.refused("no guess already", Games::game, x -> x.guess(2, '.'), NONE);
        Checks.refused("no guess already, new", x -> { }, x -> x.guess(26, '.'), NONE);
    }

    private static void guessInOrder() {
        for (int number : Games.outside(1, 26)) {
            Checks.refused("UNKNOWN before BAD_VALUE, " + number, Games::game, x -> x.guess(number, '?'), UNKNOWN);
            Checks.refused("UNKNOWN before NOT_POSSIBLE, " + number, Games::game, x -> x.guess(number, 'q'), UNKNOWN);
        }
        Checks.refused("BAD_VALUE before NOT_POSSIBLE", Games::game, x -> x.guess(1, '{'), BAD_VALUE);
        Checks.refused("NOT_POSSIBLE before NONE", Games::game, x -> x.guess(1, 'a'), NOT_POSSIBLE);
    }

    /** UNKNOWN (word or listed); NOT_POSSIBLE if it does not fit; NONE if all its numbers have guesses already. */
    private static void guessWord() {
        for (int far : Games.outside(0, 3)) {
            Checks.refused("guessWord " + far + ", 2", Games::game, x -> x.guessWord(far, 2), UNKNOWN);
            Checks.refused("guessWord 0, " + far, Games::game, x -> x.guessWord(0, far), UNKNOWN);
            Checks.refused("guessWord " + far + " twice", Games::game, x -> x.guessWord(far, far), UNKNOWN);
        }
        Checks.refused("no word", x -> Checks.words(x, "ab"), x -> x.guessWord(0, 0), UNKNOWN);
        Checks.refused("no list", x -> Checks.row(x, 0, "ab"), x -> x.guessWord(0, 0), UNKNOWN);
        Checks.refused("too long", Games::game, x -> x.guessWord(1, 2), NOT_POSSIBLE);
        Checks.refused("too short", Games::game, x -> x.guessWord(0, 3), NOT_POSSIBLE);
        Checks.refused("another letter than the guess", Games::game, x -> x.guessWord(0, 0), NOT_POSSIBLE);
        Checks.refused("a letter that is a guess", Games::game, x -> x.guessWord(1, 3), NOT_POSSIBLE);
        Checks.refused("all have guesses", x -> { Games.game(x); x.guess(2, 'y'); }, x -> x.guessWord(0, 2), NONE);
        Checks.refused("NOT_POSSIBLE before NONE", x -> { Games.game(x); x.guess(2, 'y'); }, x -> x.guessWord(0, 0), NOT_POSSIBLE);
    }

    /** UNKNOWN; NOT_POSSIBLE if it is fixed, or there are fewer coins than its price; NONE if no cell has it. */
    private static void buy() {
        for (int number : Games.outside(1, 26)) {
            Checks.refused("buy " + number, Games::game, x -> x.buy(number), UNKNOWN);
            Checks.refused("UNKNOWN before NOT_POSSIBLE, " + number, x -> Games.coins(x, 0), x -> x.buy(number), UNKNOWN);
        }
        Checks.refused("a fixed number", Games::game, x -> x.buy(1), NOT_POSSIBLE);
        Checks.refused("three coins for four", x -> Games.coins(x, 3), x -> x.buy(2), NOT_POSSIBLE);
        Checks.refused("one coin for two", x -> Games.coins(x, 1), x -> x.buy(3), NOT_POSSIBLE);
        Checks.refused("no coin", x -> Games.coins(x, 0), x -> x.buy(5), NOT_POSSIBLE);
        Checks.refused("NOT_POSSIBLE before NONE", x -> Games.coins(x, 0), x -> x.buy(26), NOT_POSSIBLE);
        Checks.refused("no cell, one coin", x -> Games.coins(x, 1), x -> x.buy(26), NONE);
        Checks.refused("no cell", Games::game, x -> x.buy(6), NONE);
        Checks.refused("no cell of a new object", x -> { }, x -> x.buy(4), NONE);
        Checks.refused("no cell, though guessed", x -> { Games.game(x); x.guess(6, 'f'); }, x -> x.buy(6), NONE);
    }

    /** UNKNOWN; NOT_POSSIBLE if there is no coin. */
    private static void check() {
        for (int word : Games.outside(0, 3)) {
            Checks.refused("check " + word, Games::game, x -> x.check(word), UNKNOWN);
            Checks.refused("UNKNOWN before NOT_POSSIBLE, " + word, x -> Games.coins(x, 0), x -> x.check(word), UNKNOWN);
        }
        Checks.refused("check of an empty grid", x -> { }, x -> x.check(0), UNKNOWN);
        Checks.refused("no coin", x -> Games.coins(x, 0), x -> x.check(0), NOT_POSSIBLE);
        Checks.refused("no coin for the last word", x -> Games.coins(x, 0), x -> x.check(3), NOT_POSSIBLE);
    }

    /** BAD_VALUE; NONE if there are 999. */
    private static void give() {
        for (int coins : Games.outside(1, 99)) {
            Checks.refused("give " + coins, Games::game, x -> x.give(coins), BAD_VALUE);
            Checks.refused("give " + coins + " of a new object", x -> { }, x -> x.give(coins), BAD_VALUE);
            Checks.refused("BAD_VALUE before NONE, " + coins, Games::rich, x -> x.give(coins), BAD_VALUE);
        }
        Checks.refused("one to 999", Games::rich, x -> x.give(1), NONE);
        Checks.refused("99 to 999", Games::rich, x -> x.give(99), NONE);
    }

    /** FULL if it has 60 characters. */
    private static void type() {
        Checks.refused("the 61st", game(Games.SIXTY), x -> x.type('j'), FULL);
        Checks.refused("the 61st, of those that a word may have", game("ab,".repeat(20)), x -> x.type('a'), FULL);
        Checks.refused("the 61st, any character", game("a".repeat(60)), x -> x.type((char) 65535), FULL);
        Checks.refused("the 62nd", x -> { Games.game(x); Checks.text(x, Games.SIXTY + "j"); }, x -> x.type('j'), FULL);
    }

    /** NONE if the history is empty. */
    private static void undo() {
        Checks.refused("undo of a new object", x -> { }, SoldLetters::undo, NONE);
        Checks.refused("undo with a text and a snapshot alone", x -> { Checks.text(x, "ab"); x.keep(); }, SoldLetters::undo, NONE);
        Checks.refused("the fifth undo", x -> { Games.game(x); undoAll(x); }, SoldLetters::undo, NONE);
    }

    private static void undoAll(SoldLetters x) {
        for (int i = 0; i < 4; i++) {
            x.undo();
        }
    }

    /** NONE if there is no snapshot. */
    private static void restore() {
        Checks.refused("restore of a new object", x -> { }, SoldLetters::restore, NONE);
        Checks.refused("restore without a snapshot", x -> {
            Checks.rows(x, "ab", "c");
            x.give(1);
            x.guess(4, 'q');
        }, SoldLetters::restore, NONE);
    }
}
