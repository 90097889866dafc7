import java.util.List;

/** The boundaries of HISTORY: none to four states, the oldest dropped, what is an act, what a state is, the snapshot. */
public final class HistoryEdgesTest {
    private static final List<String> NAMES = List.of("setRow", "setKey", "addWords", "dropWord", "guess", "taking back",
        "guessWord", "buy", "check", "give", "restore");

    private static final List<Checks.Call> ACTS = List.of(x -> x.setRow(6), x -> x.setKey(25, 25), SoldLetters::addWords,
        x -> x.dropWord(3), x -> x.guess(2, 'z'), x -> x.guess(3, '.'), x -> x.guessWord(0, 2), x -> x.buy(2),
        x -> x.check(3), x -> x.give(99), SoldLetters::restore);

    public static void main(String[] args) {
        emptyAtFirst();
        atMostFour();
        theOldestIsDropped();
        undoThenAnotherAct();
        eachActRecordsOne();
        eachActOverAFullHistory();
        whatIsNoAct();
        refusedCallsRecordNothing();
        aRowThatIsSoAlready();
        allOfAState();
        theLastOfAState();
        theTextIsNoPart();
        theSnapshotIsNoPart();
        theHistoryIsNoPart();
        noSnapshotAtFirst();
        anotherSnapshot();
        restoreOverAFullHistory();
        restoreWhatIsSoAlready();
        anEmptySnapshot();
        Checks.end();
    }

    private static void undo(SoldLetters x, int times) {
        for (int i = 0; i < times; i++) {
            x.undo();
        }
    }

    private static void give(SoldLetters x, int times) {
        for (int i = 0; i < times; i++) {
            x.give(1);
        }
    }

    private static void emptyAtFirst() {
        SoldLetters x = new SoldLetters();
        Checks.due("states", x.count(12), 0);
        Checks.due("undo", x.undo(), SoldLetters.NONE);
        x.give(1);
        Checks.due("one state", x.count(12), 1);
        Checks.due("none left", x.undo(), 0);
        Checks.due("undo", x.undo(), SoldLetters.NONE);
        Checks.due("the coins at first", x.count(3), 30);
    }

    /** "A history of at most 4 states". */
    private static void atMostFour() {
        for (int acts = 0; acts <= 10; acts++) {
            SoldLetters x = new SoldLetters();
            give(x, acts);
            int states = Math.min(4, acts);
            Checks.due("states of " + acts, x.count(12), states);
            for (int left = states - 1; left >= 0; left--) {
                Checks.due("left of " + acts, x.undo(), left);
                Checks.due("told", x.count(12), left);
                Checks.due("coins", x.count(3), 30 + acts - states + left);
            }
            Checks.due("no more of " + acts, x.undo(), SoldLetters.NONE);
            Checks.due("coins", x.count(3), 30 + acts - states);
        }
    }

    /** "when one more is recorded, the oldest one is dropped": whole states, not only the coins. */
    private static void theOldestIsDropped() {
        SoldLetters x = Checks.plain();
        for (int row = 0; row < 7; row++) {
            Checks.row(x, row, "abcdefg");
        }
        for (int row = 6; row >= 3; row--) {
            Checks.due("row " + row, x.cell(row, 0, 0), 1);
            Checks.due("left", x.undo(), row - 3);
            Checks.due("row " + row + " undone", x.cell(row, 0, 0), SoldLetters.NONE);
        }
        Checks.due("no fifth", x.undo(), SoldLetters.NONE);
        Checks.due("row 2 stays", x.cell(2, 0, 0), 1);
        Checks.due("the key stays", x.count(10), 1);
    }

    private static void undoThenAnotherAct() {
        SoldLetters x = new SoldLetters();
        give(x, 5);
        undo(x, 2);
        Checks.due("coins", x.count(3), 33);
        Checks.due("another act", x.give(50), 83);
        Checks.due("three states", x.count(12), 3);
        Checks.due("one more", x.give(5), 88);
        Checks.due("one more", x.give(5), 93);
        Checks.due("four states", x.count(12), 4);
        int[] coins = {88, 83, 33, 32};
        for (int i = 0; i < 4; i++) {
            Checks.due("left", x.undo(), 3 - i);
            Checks.due("coins", x.count(3), coins[i]);
        }
        Checks.due("no more", x.undo(), SoldLetters.NONE);
    }

    /** A game with a snapshot and no history. */
    private static void withoutHistory(SoldLetters x) {
        Games.game(x);
        undo(x, 4);
    }

    /** "Each call of a method that is described as an act, and returns no error and not NONE, records". */
    private static void eachActRecordsOne() {
        for (int i = 0; i < ACTS.size(); i++) {
            Checks.Call act = ACTS.get(i);
            String name = NAMES.get(i);
            SoldLetters x = new SoldLetters();
            Games.game(x);
            x.undo();
            Checks.isTrue(name + " is possible", act.on(x) >= 0);
            Checks.due(name + " fills the history", x.count(12), 4);
            Checks.due(name + " is undone", x.undo(), 3);
            Checks.Script before = y -> { Games.game(y); undo(y, 1); };
            Checks.Script undone = y -> { before.play(y); act.on(y); y.undo(); };
            String unlike = Portrait.unlike(Portrait.of(before), Portrait.of(undone));
            Checks.isTrue("undo of " + name + " brings all back: " + unlike, unlike == null);
        }
    }

    private static void eachActOverAFullHistory() {
        for (int i = 0; i < ACTS.size(); i++) {
            Checks.Call act = ACTS.get(i);
            SoldLetters x = new SoldLetters();
            Games.game(x);
            x.guess(2, 'y');
            x.guess(2, '.');
            Checks.isTrue(NAMES.get(i) + " is possible", act.on(x) >= 0);
            Checks.due(NAMES.get(i) + " leaves four", x.count(12), 4);
            undo(x, 3);
            Checks.due(NAMES.get(i) + " drops the oldest", x.number(1, 3), 1);
            Checks.due("undo of the act before", x.undo(), 0);
            Checks.due("no more", x.undo(), SoldLetters.NONE);
            Checks.due("before a was bought", x.number(1, 3), 0);
        }
    }

    private static void whatIsNoAct() {
        List<Checks.Call> calls = List.of(x -> x.type('a'), SoldLetters::clearText, SoldLetters::keep, x -> x.cell(0, 0, 0),
            x -> x.number(1, 0), x -> x.word(0, 0), x -> x.fits(0, 0), x -> x.listed(0, 0), x -> x.could(4, 0), x -> x.count(0));
        for (Checks.Call call : calls) {
            SoldLetters x = new SoldLetters();
            withoutHistory(x);
            Checks.isTrue("it is answered", call.on(x) >= 0);
            Checks.due("no state", x.count(12), 0);
            Games.game(x);
            call.on(x);
            Checks.due("still the four", x.count(12), 4);
            undo(x, 1);
            Checks.due("the latest is that before buy", x.number(1, 3), 0);
        }
    }

    /** "no error and not NONE": a refused call leaves room for four acts, each of which is undone. */
    private static void refusedCallsRecordNothing() {
        List<Checks.Call> calls = List.of(x -> x.setRow(7), x -> x.setKey(2, 0), x -> x.setKey(1, 0), x -> x.dropWord(4),
            x -> x.guess(0, 'a'), x -> x.guess(1, '?'), x -> x.guess(4, '.'), x -> x.guessWord(0, 4), x -> x.guessWord(1, 0),
            x -> x.buy(0), x -> x.buy(26), x -> x.check(4), x -> x.give(0), x -> x.give(100));
        for (Checks.Call call : calls) {
            SoldLetters x = new SoldLetters();
            withoutHistory(x);
            Checks.isTrue("refused", call.on(x) < 0);
            Checks.due("no state", x.count(12), 0);
            give(x, 4);
            call.on(x);
            undo(x, 3);
            Checks.due("the oldest is there", x.undo(), 0);
        }
    }

    /** The @return line of setRow has no NONE: it is an act even if nothing is another then. */
    private static void aRowThatIsSoAlready() {
        SoldLetters x = new SoldLetters();
        x.type('.');
        Checks.due("an empty row of an empty grid", x.setRow(0), 0);
        Checks.due("a state", x.count(12), 1);
        Checks.row(x, 0, "ab");
        Checks.due("the same again", x.setRow(0), 1);
        Checks.due("three states", x.count(12), 3);
        Checks.due("undo", x.undo(), 2);
        Checks.due("the row stays", x.count(1), 1);
        Checks.due("undo", x.undo(), 1);
        Checks.due("the row is gone", x.count(1), 0);
    }

    /** "A state is everything but": grid, key, guesses, fixed, coins, list, and how many are bought and checked. */
    private static void allOfAState() {
        SoldLetters x = new SoldLetters();
        Games.game(x);
        x.keep();
        x.check(0);
        x.buy(2);
        Checks.row(x, 1, "zz");
        x.setKey(9, 9);
        x.dropWord(0);
        Checks.due("coins", x.restore(), 28);
        Checks.due("words", x.count(1), 4);
        Checks.due("cells", x.count(0), 9);
        Checks.due("list", x.count(2), 4);
        Checks.due("cells with a guess", x.count(6), 4);
        Checks.due("fixed", x.number(1, 3), 1);
        Checks.due("not fixed", x.number(2, 3), 0);
        Checks.due("bought", x.count(8), 1);
        Checks.due("checks", x.count(9), 0);
        Checks.due("factor", x.count(10), 1);
        Checks.due("shift", x.count(11), 0);
        undo(x, 1);
        Checks.due("factor before", x.count(10), 9);
        Checks.due("list before", x.count(2), 3);
        Checks.due("checks before", x.count(9), 1);
        Checks.due("bought before", x.count(8), 2);
    }

    /** "everything": also the last cell, the last letters of the last word of a full list, and the last number. */
    private static void theLastOfAState() {
        String[] others = {"hijklmn", "hi", "tuvwxya"};
        for (String other : others) {
            SoldLetters x = Checks.plain("abcdefg", ".", ".", ".", ".", ".", "......z");
            Checks.words(x, "aa,ab,ac,ad,ae,af,ag,ah,ai,aj,ak");
            Checks.words(x, "tuvwxyz");
            x.guess(26, 'b');
            x.keep();
            Checks.row(x, 6, "......y");
            Checks.due("the last dropped", x.dropWord(11), 11);
            Checks.due("another in its place", Checks.words(x, other), 1);
            Checks.due("y is the last cell", x.cell(6, 6, 0), 25);
            Checks.due("undo", x.undo(), 3);
            Checks.due("undo", x.undo(), 2);
            lastWord("undone", x);
            Checks.due("y is the last cell", x.cell(6, 6, 0), 25);
            Checks.due("undo", x.undo(), 1);
            Checks.due("z is the last cell", x.cell(6, 6, 0), 26);
            Checks.due("dropped again", x.dropWord(11), 11);
            Checks.due("another in its place", Checks.words(x, other), 1);
            Checks.row(x, 6, "......y");
            x.guess(26, 'c');
            x.restore();
            Checks.due("z is restored", x.cell(6, 6, 0), 26);
            Checks.due("b is restored", x.cell(6, 6, 1), 'b');
            x.guess(26, '.');
            lastWord("restored", x);
        }
    }

    /** Word 0 has seven cells without a guess, and the twelfth of the list must be tuvwxyz. */
    private static void lastWord(String when, SoldLetters x) {
        Checks.due("letters " + when, x.listed(11, 0), 7);
        Checks.due("numbers " + when, x.guessWord(0, 11), 7);
        for (int column = 0; column < 7; column++) {
            Checks.due("letter " + column + " " + when, x.cell(0, column, 1), 't' + column);
        }
        Checks.due("undo of guessWord", x.undo(), x.count(12));
    }

    /** "everything but the text": undo and restore leave what is typed and what is cleared. */
    private static void theTextIsNoPart() {
        SoldLetters x = Checks.plain();
        Checks.row(x, 0, "ab");
        x.keep();
        Checks.text(x, "cde");
        Checks.due("undo", x.undo(), 1);
        Checks.due("the text", x.count(13), 3);
        Checks.due("restore", x.restore(), 30);
        Checks.due("the text", x.count(13), 3);
        x.setRow(0);
        Checks.due("its characters", x.cell(0, 2, 0), 5);
        x.clearText();
        x.undo();
        x.restore();
        Checks.due("cleared", x.count(13), 0);
    }

    /** "and the snapshot": undo neither removes it nor brings an older one back. */
    private static void theSnapshotIsNoPart() {
        SoldLetters x = new SoldLetters();
        give(x, 1);
        Checks.due("31", x.keep(), 31);
        x.undo();
        Checks.due("still 31", x.restore(), 31);
        give(x, 1);
        Checks.due("32", x.keep(), 32);
        undo(x, 2);
        Checks.due("coins", x.count(3), 30);
        Checks.due("not the older one", x.restore(), 32);
        x.undo();
        Checks.due("the snapshot is no part of itself", x.restore(), 32);
    }

    /** "the history": restore leaves the states that came since, and adds its own. */
    private static void theHistoryIsNoPart() {
        SoldLetters x = new SoldLetters();
        x.keep();
        give(x, 3);
        Checks.due("restore", x.restore(), 30);
        Checks.due("four", x.count(12), 4);
        int[] coins = {33, 32, 31, 30};
        for (int i = 0; i < 4; i++) {
            Checks.due("left", x.undo(), 3 - i);
            Checks.due("coins", x.count(3), coins[i]);
        }
        Checks.due("the snapshot stays", x.restore(), 30);
    }

    /** "one snapshot, empty at first". */
    private static void noSnapshotAtFirst() {
        SoldLetters x = new SoldLetters();
        Checks.due("none", x.restore(), SoldLetters.NONE);
        give(x, 2);
        Checks.due("none after acts", x.restore(), SoldLetters.NONE);
        x.undo();
        Checks.due("none after undo", x.restore(), SoldLetters.NONE);
        Checks.due("coins", x.count(3), 31);
        x.keep();
        Checks.due("kept", x.restore(), 31);
    }

    /** "in place of the one that was", "which stays". */
    private static void anotherSnapshot() {
        SoldLetters x = Checks.plain("ab");
        x.keep();
        Checks.row(x, 0, "abc.de");
        Checks.due("another", x.keep(), 30);
        Checks.row(x, 0, ".");
        for (int i = 0; i < 6; i++) {
            Checks.due("restore", x.restore(), 30);
            Checks.due("two words", x.count(1), 2);
            x.guess(1, 'q');
        }
        Checks.due("the guess is no part of it", x.restore(), 30);
        Checks.due("none", x.number(1, 1), SoldLetters.NONE);
    }

    private static void restoreOverAFullHistory() {
        SoldLetters x = new SoldLetters();
        x.keep();
        give(x, 4);
        Checks.due("restore", x.restore(), 30);
        Checks.due("four", x.count(12), 4);
        undo(x, 4);
        Checks.due("that of 30 is dropped", x.count(3), 31);
        Checks.due("no more", x.undo(), SoldLetters.NONE);
    }

    /** The @return line of restore has no other NONE: it is an act even if all is so already. */
    private static void restoreWhatIsSoAlready() {
        SoldLetters x = new SoldLetters();
        x.keep();
        Checks.due("restore", x.restore(), 30);
        Checks.due("a state", x.count(12), 1);
        Checks.due("restore", x.restore(), 30);
        Checks.due("two states", x.count(12), 2);
    }

    /** A snapshot of a new object brings back the empty grid and the empty list. */
    private static void anEmptySnapshot() {
        SoldLetters x = new SoldLetters();
        x.keep();
        Checks.rows(x, "abcdefg", "abcdefg");
        Checks.words(x, Games.TWELVE);
        x.restore();
        Checks.due("no cells", x.count(0), 0);
        Checks.due("no words", x.count(1), 0);
        Checks.due("no list", x.count(2), 0);
        Checks.due("not solved", x.count(7), 0);
        x.undo();
        Checks.due("words", x.count(1), 9);
        Checks.due("list", x.count(2), 12);
    }
}
