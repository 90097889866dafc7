import java.util.Random;
import java.util.TreeMap;

/** Long runs of calls, the same in each run of this test, answered by the program as by the Reference. */
public final class ModelTest {
    private static final int RUNS = 1500;
    private static final int CALLS = 512;
    private static final int[] FAR = {Integer.MIN_VALUE, -1, 0, 7, 12, 14, 27, 28, 100, Integer.MAX_VALUE};
    private static final String[] SIGNS = {"A", "{", "`", ",", ".", "\u00e9", "\u1234", " "};

    private final Random random;
    private final SoldLetters x = new SoldLetters();
    private final Reference due = new Reference();
    private final int run;
    private int calls = 0;
    /** Few letters make words that fit; many make keys and lists that fill. */
    private final int letters;
    private static final TreeMap<String, Integer> seen = new TreeMap<>();

    private ModelTest(int run) {
        this.run = run;
        random = new Random(run);
        letters = new int[] {2, 3, 5, 26}[run % 4];
    }

    public static void main(String[] args) {
        for (int run = 0; run < RUNS; run++) {
            new ModelTest(run).play();
        }
        allKindsWereSeen();
        Checks.end();
    }

    /** A run that never met an answer would not test it. */
    private static void allKindsWereSeen() {
        String[] kinds = {
            "setRow >=0", "setRow -1", "setRow -100", "setKey >=0", "setKey -2", "setKey -5",
            "addWords >=0", "addWords -3", "addWords -5", "addWords -100", "dropWord >=0", "dropWord -1",
            "guess >=0", "guess -1", "guess -2", "guess -4", "guess -5",
            "guessWord >=0", "guessWord -1", "guessWord -4", "guessWord -5",
            "buy >=0", "buy -1", "buy -4", "buy -5", "check >=0", "check -1", "check -4",
            "give >=0", "give -2", "give -5", "type >=0", "type -3", "clearText >=0",
            "undo >=0", "undo -5", "keep >=0", "restore >=0", "restore -5",
            "cell >=0", "cell -1", "cell -2", "cell -5", "number >=0", "number -1", "number -2", "number -5",
            "word >=0", "word -1", "word -2", "word -5", "fits >=0", "fits -1",
            "listed >=0", "listed -1", "listed -2", "listed -5", "could >=0", "could -1", "could -2", "could -5",
            "count >=0", "count -2"};
        for (String kind : kinds) {
            Checks.isTrue(kind + " was seen often", seen.getOrDefault(kind, 0) >= 20);
        }
    }

    private void answer(String call, int got, int want) {
        calls++;
        Checks.due("run " + run + ", call " + calls + ", " + call, got, want);
        String kind = want >= 0 ? ">=0" : want <= -100 ? "-100" : String.valueOf(want);
        seen.merge(call.substring(0, call.indexOf('(')) + " " + kind, 1, Integer::sum);
    }

    private void play() {
        while (calls < CALLS - 70) {
            int kind = random.nextInt(100);
            if (kind < 6) {
                text(row());
                setRow(some(7));
            } else if (kind < 11) {
                text(words());
                addWords();
            } else if (kind < 50) {
                act(random.nextInt(14));
            } else {
                tell(random.nextInt(8));
            }
        }
        for (int what = 0; what < 14; what++) {
            answer("count(" + what + ")", x.count(what), due.count(what));
        }
        // "An object is used for at most 512 calls": the last of them is answered like the first.
        while (calls < CALLS) {
            tell(random.nextInt(8));
        }
    }

    /** Mostly below the bound, now and then far from it. */
    private int some(int bound) {
        return random.nextInt(25) == 0 ? FAR[random.nextInt(FAR.length)] : random.nextInt(bound);
    }

    /** Mostly a number that a cell has. */
    private int someNumber() {
        int number = due.cell(random.nextInt(7), random.nextInt(7), 0);
        return number > 0 && random.nextInt(8) != 0 ? number : 1 + some(26);
    }

    private int someWord() {
        return some(Math.max(1, due.count(1)));
    }

    private int someListed() {
        return some(Math.max(1, due.count(2)));
    }

    private char letter() {
        return (char) ('a' + random.nextInt(letters));
    }

    private String letters(int length) {
        StringBuilder s = new StringBuilder();
        while (s.length() < length) {
            s.append(letter());
        }
        return s.toString();
    }

    private String spoilt(String s) {
        int at = random.nextInt(s.length() + 1);
        return random.nextInt(12) != 0 ? s : s.substring(0, at) + SIGNS[random.nextInt(SIGNS.length)] + s.substring(at);
    }

    private String row() {
        StringBuilder s = new StringBuilder();
        int length = random.nextInt(20) == 0 ? random.nextInt(9) : 2 + random.nextInt(6);
        while (s.length() < length) {
            s.append(random.nextInt(4) == 0 ? '.' : letter());
        }
        return spoilt(s.toString());
    }

    private String words() {
        StringBuilder s = new StringBuilder();
        for (int count = 1 + random.nextInt(5); count > 0; count--) {
            s.append(letters(random.nextInt(30) == 0 ? random.nextInt(9) : 2 + random.nextInt(random.nextInt(2) == 0 ? 2 : 6)));
            s.append(count > 1 ? "," : "");
        }
        return spoilt(s.toString());
    }

    private void text(String s) {
        answer("clearText()", x.clearText(), due.clearText());
        for (char c : s.toCharArray()) {
            type(c);
        }
    }

    private void type(char c) {
        answer("type(" + (int) c + ")", x.type(c), due.type(c));
    }

    private void setRow(int row) {
        answer("setRow(" + row + ")", x.setRow(row), due.setRow(row));
    }

    private void addWords() {
        answer("addWords()", x.addWords(), due.addWords());
    }

    private void act(int kind) {
        switch (kind) {
            case 0: setKey(); break;
            case 1: { int word = random.nextInt(3) == 0 ? someListed() : some(100); answer("dropWord(" + word + ")", x.dropWord(word), due.dropWord(word)); break; }
            case 2: case 3: case 4: guess(); break;
            case 5: case 6: guessWord(); break;
            case 7: { int number = someNumber(); answer("buy(" + number + ")", x.buy(number), due.buy(number)); break; }
            case 8: { int word = someWord(); answer("check(" + word + ")", x.check(word), due.check(word)); break; }
            case 9: give(); break;
            case 10: case 11: answer("undo()", x.undo(), due.undo()); break;
            case 12: answer("keep()", x.keep(), due.keep()); break;
            default: other(); break;
        }
    }

    private void other() {
        int kind = random.nextInt(8);
        if (kind < 3) {
            answer("restore()", x.restore(), due.restore());
        } else if (kind == 3) {
            fillText();
        } else if (kind == 4 && due.count(3) < 60) {
            spendAll();
        } else if (kind == 5) {
            addWords();
        } else if (kind == 6) {
            setRow(some(7));
        } else {
            type(letter());
        }
    }

    private void fillText() {
        for (int i = 0; i < 10; i++) {
            type(random.nextInt(9) == 0 ? ',' : letter());
        }
        if (run % 3 == 0) {
            for (int i = 0; i < 61 && calls < CALLS - 70; i++) {
                type(letter());
            }
        }
    }

    private void spendAll() {
        int word = someWord();
        for (int i = 0; i < 60 && calls < CALLS - 70 && due.count(3) > 0; i++) {
            answer("check(" + word + ")", x.check(word), due.check(word));
            if (due.count(1) == 0) {
                return;
            }
        }
    }

    private void setKey() {
        int factor = random.nextInt(3) == 0 ? due.count(10) : some(27);
        int shift = random.nextInt(3) == 0 ? due.count(11) : some(27);
        answer("setKey(" + factor + ", " + shift + ")", x.setKey(factor, shift), due.setKey(factor, shift));
    }

    private void guess() {
        int number = someNumber();
        char letter = random.nextInt(6) == 0 ? '.' : random.nextInt(20) == 0 ? SIGNS[random.nextInt(SIGNS.length)].charAt(0) : letter();
        answer("guess(" + number + ", " + (int) letter + ")", x.guess(number, letter), due.guess(number, letter));
    }

    private void guessWord() {
        int word = someWord();
        int listed = someListed();
        answer("guessWord(" + word + ", " + listed + ")", x.guessWord(word, listed), due.guessWord(word, listed));
    }

    private void give() {
        int coins = random.nextInt(3) == 0 ? some(101) : 90;
        int times = random.nextInt(10) == 0 ? 11 : 1;
        for (int i = 0; i < times && calls < CALLS - 70; i++) {
            answer("give(" + coins + ")", x.give(coins), due.give(coins));
        }
    }

    private void tell(int kind) {
        int what = some(8);
        switch (kind) {
            case 0: { int row = some(7); int column = some(7); int w = some(4);
                answer("cell(" + row + ", " + column + ", " + w + ")", x.cell(row, column, w), due.cell(row, column, w)); break; }
            case 1: { int number = someNumber(); answer("number(" + number + ", " + what + ")", x.number(number, what), due.number(number, what)); break; }
            case 2: { int word = someWord(); answer("word(" + word + ", " + what + ")", x.word(word, what), due.word(word, what)); break; }
            case 3: { int word = someWord(); int listed = someListed();
                answer("fits(" + word + ", " + listed + ")", x.fits(word, listed), due.fits(word, listed)); break; }
            case 4: { int listed = someListed(); int w = some(3);
                answer("listed(" + listed + ", " + w + ")", x.listed(listed, w), due.listed(listed, w)); break; }
            case 5: case 6: { int number = someNumber(); int w = some(2);
                answer("could(" + number + ", " + w + ")", x.could(number, w), due.could(number, w)); break; }
            default: { int w = some(14); answer("count(" + w + ")", x.count(w), due.count(w)); break; }
        }
    }
}
