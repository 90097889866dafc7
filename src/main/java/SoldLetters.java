/** A crossword in cipher whose letters are guessed or bought for coins; README.md tells how to use it. */
public final class SoldLetters {
    public static final int UNKNOWN = -1;
    public static final int BAD_VALUE = -2;
    public static final int FULL = -3;
    public static final int NOT_POSSIBLE = -4;
    public static final int NONE = -5;

    /** A fault at the index i of the text is answered as this less i, so that no constant above is met. */
    private static final int FAULT = -100;

    private static final int SIDE = 7;
    private static final int CELLS = SIDE * SIDE;
    private static final int LETTERS = 26;
    private static final int ALL_LETTERS = (1 << LETTERS) - 1;
    private static final int SHORTEST = 2;
    private static final int LONGEST = 7;
    /** Each of the 14 lines has room for two words: three would need eight cells. */
    private static final int MOST_WORDS = 28;
    private static final int MOST_LISTED = 12;
    private static final int MOST_TYPED = 60;
    private static final int MOST_STATES = 4;
    private static final int MOST_COINS = 999;
    private static final int MOST_GIVEN = 99;
    private static final int HIGHEST_PRICE = 9;

    // All that is ever needed is made here, so that no call makes an object.
    private final State state = new State();
    private final Words words = new Words();
    private final Text text = new Text();
    private final State[] history = new State[MOST_STATES];
    private final State snapshot = new State();
    private int states;
    private boolean hasSnapshot;

    public SoldLetters() {
        for (int i = 0; i < MOST_STATES; i++) {
            history[i] = new State();
        }
    }

    // ---- grid, key, list

    public int setRow(int row) {
        if (!isInGrid(row)) {
            return UNKNOWN;
        }
        int fault = text.faultAsRow();
        if (fault >= 0) {
            return FAULT - fault;
        }
        remember();
        for (int column = 0; column < SIDE; column++) {
            state.letters[row * SIDE + column] = text.letterInRow(column);
        }
        state.forgetGuesses();
        words.find(state.letters);
        return words.size;
    }

    public int setKey(int factor, int shift) {
        if (!isFactor(factor) || shift < 0 || shift >= LETTERS) {
            return BAD_VALUE;
        }
        if (state.factor == factor && state.shift == shift) {
            return NONE;
        }
        remember();
        state.factor = factor;
        state.shift = shift;
        state.forgetGuesses();
        return state.numberOf('a');
    }

    public int addWords() {
        int fault = text.faultAsWords();
        if (fault >= 0) {
            return FAULT - fault;
        }
        int coming = newWordsInText();
        if (state.listSize + coming > MOST_LISTED) {
            return FULL;
        }
        if (coming == 0) {
            return NONE;
        }
        remember();
        for (int i = 0; i < text.length; i++) {
            if (text.startsWord(i) && !isListed(i)) {
                appendToList(i);
            }
        }
        return coming;
    }

    public int dropWord(int word) {
        if (!isInList(word)) {
            return UNKNOWN;
        }
        remember();
        state.removeListed(word);
        return state.listSize;
    }

    // ---- guessing, buying, checking

    public int guess(int number, char letter) {
        if (!isNumber(number)) {
            return UNKNOWN;
        }
        if (letter != '.' && !isLetter(letter)) {
            return BAD_VALUE;
        }
        int guessed = letter == '.' ? 0 : letter;
        if (state.fixed[number] || isGuessOfAnother(guessed, number)) {
            return NOT_POSSIBLE;
        }
        if (state.guesses[number] == guessed) {
            return NONE;
        }
        remember();
        state.guesses[number] = guessed;
        return state.guessedCells();
    }

    public int guessWord(int word, int listed) {
        if (!isWord(word) || !isInList(listed)) {
            return UNKNOWN;
        }
        if (!isFitting(word, listed)) {
            return NOT_POSSIBLE;
        }
        if (guessedCellsOf(word) == words.lengths[word]) {
            return NONE;
        }
        remember();
        int given = 0;
        for (int place = 0; place < words.lengths[word]; place++) {
            int number = numberIn(word, place);
            if (isUnguessed(number)) {
                state.guesses[number] = state.listedLetter(listed, place);
                given++;
            }
        }
        return given;
    }

    public int buy(int number) {
        if (!isNumber(number)) {
            return UNKNOWN;
        }
        int price = state.priceOf(number);
        if (state.fixed[number] || state.coins < price) {
            return NOT_POSSIBLE;
        }
        if (state.cellsWith(number) == 0) {
            return NONE;
        }
        remember();
        int letter = state.letterOf(number);
        int before = state.numberGuessedAs(letter);
        if (isNumber(before)) {
            state.guesses[before] = 0;
        }
        state.guesses[number] = letter;
        state.fixed[number] = true;
        state.coins -= price;
        state.bought++;
        return letter;
    }

    public int check(int word) {
        if (!isWord(word)) {
            return UNKNOWN;
        }
        if (state.coins == 0) {
            return NOT_POSSIBLE;
        }
        remember();
        state.coins--;
        state.checks++;
        int wrong = 0;
        for (int place = 0; place < words.lengths[word]; place++) {
            int cell = words.cellOf(word, place);
            int guessed = state.guessAt(cell);
            if (guessed != 0 && guessed != state.letters[cell]) {
                wrong++;
            }
        }
        return wrong;
    }

    public int give(int coins) {
        if (coins < 1 || coins > MOST_GIVEN) {
            return BAD_VALUE;
        }
        if (state.coins == MOST_COINS) {
            return NONE;
        }
        remember();
        state.coins = Math.min(MOST_COINS, state.coins + coins);
        return state.coins;
    }

    // ---- texts

    public int type(char character) {
        if (text.length >= MOST_TYPED) {
            return FULL;
        }
        text.append(character);
        return text.length;
    }

    public int clearText() {
        int had = text.length;
        text.length = 0;
        return had;
    }

    // ---- history

    public int undo() {
        if (states == 0) {
            return NONE;
        }
        states--;
        bringBack(history[states]);
        return states;
    }

    public int keep() {
        snapshot.copyFrom(state);
        hasSnapshot = true;
        return state.coins;
    }

    public int restore() {
        if (!hasSnapshot) {
            return NONE;
        }
        remember();
        bringBack(snapshot);
        return state.coins;
    }

    // ---- what is told

    public int cell(int row, int column, int what) {
        if (!isInGrid(row) || !isInGrid(column)) {
            return UNKNOWN;
        }
        int cell = row * SIDE + column;
        switch (what) {
            case 0:
                return orNone(state.numberAt(cell));
            case 1:
                return orNone(state.guessAt(cell));
            case 2:
                return words.wordAt(cell, false);
            case 3:
                return words.wordAt(cell, true);
            default:
                return BAD_VALUE;
        }
    }

    public int number(int number, int what) {
        if (!isNumber(number)) {
            return UNKNOWN;
        }
        switch (what) {
            case 0:
                return state.cellsWith(number);
            case 1:
                return orNone(state.guesses[number]);
            case 2:
                return state.priceOf(number);
            case 3:
                return oneIf(state.fixed[number]);
            case 4:
                return wordsWith(number);
            default:
                return BAD_VALUE;
        }
    }

    public int word(int word, int what) {
        if (!isWord(word)) {
            return UNKNOWN;
        }
        switch (what) {
            case 0:
                return words.starts[word] / SIDE;
            case 1:
                return words.starts[word] % SIDE;
            case 2:
                return words.lengths[word];
            case 3:
                return oneIf(words.isDown(word));
            case 4:
                return guessedCellsOf(word);
            case 5:
                return listedThatFit(word);
            case 6:
                return firstListedThatFits(word);
            default:
                return BAD_VALUE;
        }
    }

    public int fits(int word, int listed) {
        if (!isWord(word) || !isInList(listed)) {
            return UNKNOWN;
        }
        return oneIf(isFitting(word, listed));
    }

    public int listed(int listed, int what) {
        if (!isInList(listed)) {
            return UNKNOWN;
        }
        switch (what) {
            case 0:
                return state.listLengths[listed];
            case 1:
                return wordsThatFit(listed);
            case 2:
                int word = firstWordThatFits(listed);
                return word == NONE ? NONE : priceOfRest(word);
            default:
                return BAD_VALUE;
        }
    }

    public int could(int number, int what) {
        if (!isNumber(number)) {
            return UNKNOWN;
        }
        if (what < 0 || what > 1) {
            return BAD_VALUE;
        }
        if (state.guesses[number] != 0 || state.cellsWith(number) == 0) {
            return NONE;
        }
        int possible = possibleLetters(number);
        return what == 0 ? Integer.bitCount(possible) : lowestLetter(possible);
    }

    public int count(int what) {
        switch (what) {
            case 0:
                return state.cellsWithLetters();
            case 1:
                return words.size;
            case 2:
                return state.listSize;
            case 3:
                return state.coins;
            case 4:
                return state.numbersInGrid();
            case 5:
                return state.guessedNumbersInGrid();
            case 6:
                return state.guessedCells();
            case 7:
                return oneIf(state.isSolved());
            case 8:
                return state.bought;
            case 9:
                return state.checks;
            case 10:
                return state.factor;
            case 11:
                return state.shift;
            case 12:
                return states;
            case 13:
                return text.length;
            default:
                return BAD_VALUE;
        }
    }

    // ---- what the calls rest on

    private static boolean isInGrid(int rowOrColumn) {
        return rowOrColumn >= 0 && rowOrColumn < SIDE;
    }

    private static boolean isNumber(int number) {
        return number >= 1 && number <= LETTERS;
    }

    private static boolean isLetter(int character) {
        return character >= 'a' && character <= 'z';
    }

    /** The factors are those that have no divisor in common with 26: others would give two letters one number. */
    private static boolean isFactor(int factor) {
        return factor >= 1 && factor < LETTERS && factor % 2 == 1 && factor != 13;
    }

    private static int orNone(int found) {
        return found == 0 ? NONE : found;
    }

    private static int oneIf(boolean so) {
        return so ? 1 : 0;
    }

    private boolean isWord(int word) {
        return word >= 0 && word < words.size;
    }

    private boolean isInList(int listed) {
        return listed >= 0 && listed < state.listSize;
    }

    /** The oldest state gives up its room to the newest one when there is no other. */
    private void remember() {
        if (states == MOST_STATES) {
            State oldest = history[0];
            for (int i = 1; i < MOST_STATES; i++) {
                history[i - 1] = history[i];
            }
            history[MOST_STATES - 1] = oldest;
            states--;
        }
        history[states].copyFrom(state);
        states++;
    }

    private void bringBack(State earlier) {
        state.copyFrom(earlier);
        words.find(state.letters);
    }

    private boolean isGuessOfAnother(int letter, int number) {
        int guessed = state.numberGuessedAs(letter);
        return guessed != 0 && guessed != number;
    }

    /** A number 0 stands for a black cell, which has no guess and waits for none. */
    private boolean isUnguessed(int number) {
        return isNumber(number) && state.guesses[number] == 0;
    }

    private int numberIn(int word, int place) {
        return state.numberAt(words.cellOf(word, place));
    }

    private boolean hasNumber(int word, int number) {
        return firstPlaceOf(number, word) < words.lengths[word];
    }

    /** The length of the word if it does not have the number. */
    private int firstPlaceOf(int number, int word) {
        int place = 0;
        while (place < words.lengths[word] && numberIn(word, place) != number) {
            place++;
        }
        return place;
    }

    private int wordsWith(int number) {
        int found = 0;
        for (int word = 0; word < words.size; word++) {
            if (hasNumber(word, number)) {
                found++;
            }
        }
        return found;
    }

    private int guessedCellsOf(int word) {
        int guessed = 0;
        for (int place = 0; place < words.lengths[word]; place++) {
            if (state.guessAt(words.cellOf(word, place)) != 0) {
                guessed++;
            }
        }
        return guessed;
    }

    private int newWordsInText() {
        int coming = 0;
        for (int i = 0; i < text.length; i++) {
            if (text.startsWord(i) && !isListed(i) && !text.isRepeated(i)) {
                coming++;
            }
        }
        return coming;
    }

    private boolean isListed(int start) {
        for (int listed = 0; listed < state.listSize; listed++) {
            if (isSameWord(start, listed)) {
                return true;
            }
        }
        return false;
    }

    private boolean isSameWord(int start, int listed) {
        int length = text.wordLength(start);
        if (length != state.listLengths[listed]) {
            return false;
        }
        for (int i = 0; i < length; i++) {
            if (text.characters[start + i] != state.listedLetter(listed, i)) {
                return false;
            }
        }
        return true;
    }

    private void appendToList(int start) {
        int length = text.wordLength(start);
        if (state.listSize >= MOST_LISTED || length > LONGEST) {
            return;
        }
        for (int i = 0; i < length; i++) {
            state.listLetters[state.listSize * LONGEST + i] = text.characters[start + i];
        }
        state.listLengths[state.listSize] = length;
        state.listSize++;
    }

    private boolean isFitting(int word, int listed) {
        int length = words.lengths[word];
        if (length != state.listLengths[listed]) {
            return false;
        }
        for (int place = 0; place < length; place++) {
            int letter = state.listedLetter(listed, place);
            if (!mayStandFor(letter, numberIn(word, place)) || !agreesWithEarlier(word, listed, place)) {
                return false;
            }
        }
        return true;
    }

    /** Either the letter is the number's guess, or both are still free. */
    private boolean mayStandFor(int letter, int number) {
        return state.numberGuessedAs(letter) == (isUnguessed(number) ? 0 : number);
    }

    /** Cells of the grid have the same number just when they have the same letter. */
    private boolean agreesWithEarlier(int word, int listed, int place) {
        int letterInGrid = state.letters[words.cellOf(word, place)];
        for (int earlier = 0; earlier < place; earlier++) {
            boolean sameNumber = state.letters[words.cellOf(word, earlier)] == letterInGrid;
            boolean sameLetter = state.listedLetter(listed, earlier) == state.listedLetter(listed, place);
            if (sameNumber != sameLetter) {
                return false;
            }
        }
        return true;
    }

    private int listedThatFit(int word) {
        int fitting = 0;
        for (int listed = 0; listed < state.listSize; listed++) {
            if (isFitting(word, listed)) {
                fitting++;
            }
        }
        return fitting;
    }

    private int firstListedThatFits(int word) {
        for (int listed = 0; listed < state.listSize; listed++) {
            if (isFitting(word, listed)) {
                return listed;
            }
        }
        return NONE;
    }

    private int wordsThatFit(int listed) {
        int fitting = 0;
        for (int word = 0; word < words.size; word++) {
            if (isFitting(word, listed)) {
                fitting++;
            }
        }
        return fitting;
    }

    private int firstWordThatFits(int listed) {
        for (int word = 0; word < words.size; word++) {
            if (isFitting(word, listed)) {
                return word;
            }
        }
        return NONE;
    }

    private int priceOfRest(int word) {
        int sum = 0;
        for (int place = 0; place < words.lengths[word]; place++) {
            int number = numberIn(word, place);
            if (isUnguessed(number) && firstPlaceOf(number, word) == place) {
                sum += state.priceOf(number);
            }
        }
        return sum;
    }

    /** The letters as bits, that of a the lowest. */
    private int possibleLetters(int number) {
        int possible = ALL_LETTERS;
        for (int letter = 'a'; letter <= 'z'; letter++) {
            if (isGuessOfAnother(letter, number)) {
                possible &= ~bitOf(letter);
            }
        }
        for (int word = 0; word < words.size; word++) {
            int offered = offeredLetters(word, number);
            // No offer at all: the word lacks the number or no listed word fits it, and then it does not matter.
            if (offered != 0) {
                possible &= offered;
            }
        }
        return possible;
    }

    private int offeredLetters(int word, int number) {
        int place = firstPlaceOf(number, word);
        if (place >= words.lengths[word]) {
            return 0;
        }
        int offered = 0;
        for (int listed = 0; listed < state.listSize; listed++) {
            if (isFitting(word, listed)) {
                // A word that fits has the same letter at all cells of the number, so the first one stands for all.
                offered |= bitOf(state.listedLetter(listed, place));
            }
        }
        return offered;
    }

    private static int bitOf(int letter) {
        return 1 << (letter - 'a');
    }

    private static int lowestLetter(int letters) {
        for (int letter = 'a'; letter <= 'z'; letter++) {
            if ((letters & bitOf(letter)) != 0) {
                return letter;
            }
        }
        return NONE;
    }

    /** What undo and the snapshot bring back. Letters are codes of characters; 0 is a black cell, or no guess. */
    private static final class State {
        final int[] letters = new int[CELLS];
        final int[] guesses = new int[LETTERS + 1];
        final boolean[] fixed = new boolean[LETTERS + 1];
        final int[] listLetters = new int[MOST_LISTED * LONGEST];
        final int[] listLengths = new int[MOST_LISTED];
        int listSize;
        int factor = 7;
        int shift = 3;
        int coins = 30;
        int bought;
        int checks;

        void copyFrom(State other) {
            System.arraycopy(other.letters, 0, letters, 0, CELLS);
            System.arraycopy(other.listLetters, 0, listLetters, 0, MOST_LISTED * LONGEST);
            System.arraycopy(other.listLengths, 0, listLengths, 0, MOST_LISTED);
            for (int number = 1; number <= LETTERS; number++) {
                guesses[number] = other.guesses[number];
                fixed[number] = other.fixed[number];
            }
            listSize = other.listSize;
            factor = other.factor;
            shift = other.shift;
            coins = other.coins;
            bought = other.bought;
            checks = other.checks;
        }

        void forgetGuesses() {
            for (int number = 1; number <= LETTERS; number++) {
                guesses[number] = 0;
                fixed[number] = false;
            }
        }

        int numberOf(int letter) {
            return (factor * (letter - 'a') + shift) % LETTERS + 1;
        }

        int letterOf(int number) {
            for (int letter = 'a'; letter <= 'z'; letter++) {
                if (numberOf(letter) == number) {
                    return letter;
                }
            }
            return 0;
        }

        /** 0 of a black cell. */
        int numberAt(int cell) {
            return letters[cell] == 0 ? 0 : numberOf(letters[cell]);
        }

        int guessAt(int cell) {
            int number = numberAt(cell);
            return isNumber(number) ? guesses[number] : 0;
        }

        /** The number whose guess the letter is, or 0; no number is guessed as no letter. */
        int numberGuessedAs(int letter) {
            if (letter == 0) {
                return 0;
            }
            for (int number = 1; number <= LETTERS; number++) {
                if (guesses[number] == letter) {
                    return number;
                }
            }
            return 0;
        }

        int cellsWith(int number) {
            int found = 0;
            for (int cell = 0; cell < CELLS; cell++) {
                if (numberAt(cell) == number) {
                    found++;
                }
            }
            return found;
        }

        int priceOf(int number) {
            return Math.min(HIGHEST_PRICE, 1 + cellsWith(number));
        }

        int cellsWithLetters() {
            return CELLS - cellsWith(0);
        }

        int guessedCells() {
            int guessed = 0;
            for (int cell = 0; cell < CELLS; cell++) {
                if (guessAt(cell) != 0) {
                    guessed++;
                }
            }
            return guessed;
        }

        int numbersInGrid() {
            int found = 0;
            for (int number = 1; number <= LETTERS; number++) {
                if (cellsWith(number) > 0) {
                    found++;
                }
            }
            return found;
        }

        int guessedNumbersInGrid() {
            int found = 0;
            for (int number = 1; number <= LETTERS; number++) {
                if (guesses[number] != 0 && cellsWith(number) > 0) {
                    found++;
                }
            }
            return found;
        }

        boolean isSolved() {
            for (int cell = 0; cell < CELLS; cell++) {
                if (guessAt(cell) != letters[cell]) {
                    return false;
                }
            }
            return cellsWithLetters() > 0;
        }

        int listedLetter(int listed, int place) {
            return listLetters[listed * LONGEST + place];
        }

        void removeListed(int listed) {
            listSize--;
            for (int i = listed; i < listSize; i++) {
                System.arraycopy(listLetters, (i + 1) * LONGEST, listLetters, i * LONGEST, LONGEST);
                listLengths[i] = listLengths[i + 1];
            }
        }
    }

    /** The words of the grid, found anew whenever cells change. */
    private static final class Words {
        final int[] starts = new int[MOST_WORDS];
        final int[] lengths = new int[MOST_WORDS];
        /** From a cell of the word to its next: 1 across, or a whole row down. */
        final int[] steps = new int[MOST_WORDS];
        int size;

        void find(int[] letters) {
            size = 0;
            for (int row = 0; row < SIDE; row++) {
                findInLine(letters, row * SIDE, 1);
            }
            for (int column = 0; column < SIDE; column++) {
                findInLine(letters, column, SIDE);
            }
        }

        /** One place more than the line has is looked at, as black, to end a word at the edge. */
        void findInLine(int[] letters, int first, int step) {
            int length = 0;
            for (int place = 0; place <= SIDE; place++) {
                if (place < SIDE && letters[first + place * step] != 0) {
                    length++;
                } else {
                    append(first + (place - length) * step, length, step);
                    length = 0;
                }
            }
        }

        void append(int start, int length, int step) {
            if (length < SHORTEST || size >= MOST_WORDS) {
                return;
            }
            starts[size] = start;
            lengths[size] = length;
            steps[size] = step;
            size++;
        }

        boolean isDown(int word) {
            return steps[word] == SIDE;
        }

        int cellOf(int word, int place) {
            return starts[word] + place * steps[word];
        }

        int wordAt(int cell, boolean down) {
            for (int word = 0; word < size; word++) {
                if (isDown(word) == down && hasCell(word, cell)) {
                    return word;
                }
            }
            return NONE;
        }

        boolean hasCell(int word, int cell) {
            for (int place = 0; place < lengths[word]; place++) {
                if (cellOf(word, place) == cell) {
                    return true;
                }
            }
            return false;
        }
    }

    /** The text, whose words are told by the index at which they start. */
    private static final class Text {
        final int[] characters = new int[MOST_TYPED];
        int length;

        void append(int character) {
            characters[length] = character;
            length++;
        }

        /** The index of the fault as a row, or -1. */
        int faultAsRow() {
            for (int i = 0; i < length; i++) {
                if (i >= SIDE || (!isLetter(characters[i]) && characters[i] != '.')) {
                    return i;
                }
            }
            return length == 0 ? 0 : -1;
        }

        /** The index of the fault as words, or -1. */
        int faultAsWords() {
            int letters = 0;
            for (int i = 0; i < length; i++) {
                if (isLetter(characters[i]) && letters < LONGEST) {
                    letters++;
                } else if (characters[i] == ',' && letters >= SHORTEST) {
                    letters = 0;
                } else {
                    return i;
                }
            }
            return letters < SHORTEST ? length : -1;
        }

        /** 0 of a black cell; cells behind the text are black. */
        int letterInRow(int column) {
            return column < length && isLetter(characters[column]) ? characters[column] : 0;
        }

        int wordLength(int start) {
            int letters = 0;
            while (start + letters < length && characters[start + letters] != ',') {
                letters++;
            }
            return letters;
        }

        boolean startsWord(int i) {
            return i == 0 || characters[i - 1] == ',';
        }

        /** Whether the same word stands in the text before it. */
        boolean isRepeated(int start) {
            for (int earlier = 0; earlier < start; earlier++) {
                if (startsWord(earlier) && isSameInText(earlier, start)) {
                    return true;
                }
            }
            return false;
        }

        boolean isSameInText(int one, int other) {
            int letters = wordLength(one);
            if (letters != wordLength(other)) {
                return false;
            }
            for (int i = 0; i < letters; i++) {
                if (characters[one + i] != characters[other + i]) {
                    return false;
                }
            }
            return true;
        }
    }
}
