/** Promises 13 (undo), 14 (keep) and 15 (restore), and which calls are acts. */
public final class HistoryTest {
    public static void main(String[] args) {
        eachAct();
        noActs();
        fifthAct();
        undoToTheEnd();
        snapshot();
        restoreIsAnAct();
        textIsNoPart();
        historyAndSnapshotAreNoPart();
        Checks.end();
    }

    private static void game(SoldLetters x) {
        x.setKey(1, 0);
        Checks.words(x, "xyyx,abba,xy");
        Checks.row(x, 0, "abba.cd");
        Checks.row(x, 1, "c....c");
        x.undo();
        x.undo();
        x.undo();
        x.undo();
        x.setKey(3, 0);
        x.undo();
        Checks.words(x, "xyyx,abba,xy");
        Checks.row(x, 0, "abba.cd");
        x.guess(4, 'q');
    }

    /** Undo after one act must bring back all that was told before, down to the older states. */
    private static void undone(String what, Checks.Call act) {
        SoldLetters x = new SoldLetters();
        game(x);
        int before = x.count(12);
        Checks.isTrue(what + " is possible", act.on(x) >= 0);
        Checks.due(what + " is recorded", x.count(12), before + 1);
        Checks.Script undone = y -> {
            game(y);
            Checks.text(y, "..q");
            y.keep();
            act.on(y);
            y.undo();
            Checks.text(y, "");
        };
        Checks.Script without = y -> {
            game(y);
            y.keep();
            Checks.text(y, "");
        };
        Checks.isTrue("undo of " + what, Checks.everythingTold(undone).equals(Checks.everythingTold(without)));
        Checks.Script done = y -> {
            game(y);
            act.on(y);
            y.undo();
        };
        SoldLetters z = new SoldLetters();
        done.play(z);
        Checks.due("undo of " + what + " leaves the others", z.count(12), before);
    }

    private static void eachAct() {
        undone("setRow", x -> Checks.row(x, 2, "zzz"));
        undone("setRow over another", x -> Checks.row(x, 0, "ba"));
        undone("setKey", x -> x.setKey(25, 25));
        undone("addWords", x -> Checks.words(x, "qq,rr"));
        undone("dropWord", x -> x.dropWord(0));
        undone("guess", x -> x.guess(19, 'z'));
        undone("taking a guess back", x -> x.guess(4, '.'));
        undone("guessWord", x -> x.guessWord(1, 2));
        undone("buy", x -> x.buy(x.cell(0, 0, 0)));
        undone("check", x -> x.check(0));
        undone("give", x -> x.give(5));
        undone("restore", x -> { x.keep(); return x.restore(); });
    }

    private static void noActs() {
        SoldLetters x = new SoldLetters();
        game(x);
        int before = x.count(12);
        x.type('a');
        x.clearText();
        x.keep();
        x.cell(0, 0, 0);
        x.number(1, 0);
        x.word(0, 5);
        x.fits(0, 0);
        x.listed(0, 2);
        x.could(18, 0);
        x.count(7);
        Checks.due("no act records", x.count(12), before);
    }

    private static void fifthAct() {
        SoldLetters x = new SoldLetters();
        for (int i = 1; i <= 6; i++) {
            x.give(i);
            Checks.due("states", x.count(12), Math.min(4, i));
        }
        Checks.due("coins", x.count(3), 51);
        int[] coins = {45, 40, 36, 33};
        for (int i = 0; i < 4; i++) {
            Checks.due("undo", x.undo(), 3 - i);
            Checks.due("coins", x.count(3), coins[i]);
        }
        Checks.due("the oldest are dropped", x.undo(), -5);
        Checks.due("33", x.count(3), 33);
        x.give(9);
        Checks.due("recorded anew", x.count(12), 1);
        Checks.due("undo", x.undo(), 0);
        Checks.due("33 again", x.count(3), 33);
    }

    private static void undoToTheEnd() {
        Checks.refused("nothing to undo", x -> { }, SoldLetters::undo, -5);
        Checks.refused("nothing more to undo", x -> { game(x); for (int i = 0; i < 4; i++) { x.undo(); } }, SoldLetters::undo, -5);
    }

    private static void snapshot() {
        SoldLetters x = Checks.plain();
        Checks.refused("no snapshot", y -> y.give(4), SoldLetters::restore, -5);
        x.give(5);
        Checks.row(x, 0, "ab");
        x.buy(1);
        Checks.due("coins", x.keep(), 33);
        int states = x.count(12);
        Checks.due("no act", states, 4);
        Checks.row(x, 0, "ccc");
        x.setKey(5, 5);
        Checks.words(x, "abc");
        x.check(0);
        Checks.due("restore", x.restore(), 33);
        Checks.due("key", x.count(10), 1);
        Checks.due("list", x.count(2), 0);
        Checks.due("bought", x.count(8), 1);
        Checks.due("checks", x.count(9), 0);
        Checks.due("row", x.cell(0, 1, 0), 2);
        Checks.due("words", x.word(0, 2), 2);
        Checks.due("fixed", x.number(1, 3), 1);
        x.give(7);
        Checks.due("the snapshot stays", x.restore(), 33);
        x.give(8);
        Checks.due("another in its place", x.keep(), 41);
        x.give(1);
        Checks.due("the other", x.restore(), 41);
        Checks.due("restore of what is already so", x.restore(), 41);
    }

    private static void restoreIsAnAct() {
        SoldLetters x = new SoldLetters();
        x.keep();
        x.give(1);
        Checks.due("restore", x.restore(), 30);
        Checks.due("two states", x.count(12), 2);
        Checks.due("undo of restore", x.undo(), 1);
        Checks.due("31", x.count(3), 31);
        Checks.due("undo", x.undo(), 0);
        Checks.due("30", x.count(3), 30);
        for (int i = 0; i < 4; i++) {
            x.give(1);
        }
        x.restore();
        Checks.due("over a full history", x.count(12), 4);
        int[] coins = {34, 33, 32, 31};
        for (int i = 0; i < 4; i++) {
            x.undo();
            Checks.due("coins", x.count(3), coins[i]);
        }
        Checks.due("no more", x.undo(), -5);
    }

    private static void textIsNoPart() {
        SoldLetters x = new SoldLetters();
        Checks.row(x, 0, "abc");
        x.keep();
        x.type('d');
        Checks.due("undo", x.undo(), 0);
        Checks.due("leaves the text", x.count(13), 4);
        x.type('e');
        Checks.due("restore", x.restore(), 30);
        Checks.due("leaves the text", x.count(13), 5);
        Checks.due("its characters too", x.setRow(1), 5);
        Checks.due("e", x.cell(1, 4, 0), 6);
        x.clearText();
        x.undo();
        Checks.due("empty", x.count(13), 0);
    }

    private static void historyAndSnapshotAreNoPart() {
        SoldLetters x = new SoldLetters();
        x.give(1);
        x.keep();
        Checks.due("undo", x.undo(), 0);
        Checks.due("undo leaves the snapshot", x.restore(), 31);
        x.give(1);
        x.give(1);
        x.restore();
        Checks.due("restore leaves the history and adds to it", x.count(12), 4);
    }
}
