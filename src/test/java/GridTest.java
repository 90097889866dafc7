/** Promises 1 (a new object), 2 (setRow), 3 (setKey), 16 (cell), 17 (number) and 18 (word). */
public final class GridTest {
    public static void main(String[] args) {
        newObject();
        rows();
        rowsForgetGuesses();
        keys();
        keyForgetsGuesses();
        wordsInOrder();
        mostWords();
        cells();
        numbers();
        words();
        lastCorner();
        Checks.end();
    }

    private static void newObject() {
        SoldLetters x = new SoldLetters();
        for (int row = 0; row < 7; row++) {
            for (int column = 0; column < 7; column++) {
                Checks.due("cell of a new object", x.cell(row, column, 0), -5);
            }
        }
        int[] due = {0, 0, 0, 30, 0, 0, 0, 0, 0, 0, 7, 3, 0, 0};
        for (int what = 0; what < due.length; what++) {
            Checks.due("new count(" + what + ")", x.count(what), due[what]);
        }
        for (int number = 1; number <= 26; number++) {
            Checks.due("new guess", x.number(number, 1), -5);
            Checks.due("new fixed", x.number(number, 3), 0);
        }
        Checks.due("new restore", x.restore(), -5);
        Checks.due("new undo", x.undo(), -5);
        Checks.due("new word", x.word(0, 0), -1);
        Checks.due("new listed", x.listed(0, 0), -1);
    }

    private static void rows() {
        SoldLetters x = Checks.plain();
        Checks.due("seven letters", Checks.row(x, 0, "abcdefg"), 1);
        Checks.due("the text stays", x.count(13), 7);
        Checks.due("the same text in another row", x.setRow(1), 9);
        Checks.due("a shorter row ends in black cells", Checks.row(x, 1, "xy"), 4);
        Checks.due("behind the text", x.cell(1, 2, 0), -5);
        Checks.due("behind the text, last", x.cell(1, 6, 0), -5);
        Checks.due("x", x.cell(1, 0, 0), 24);
        Checks.due("one black cell empties a row", Checks.row(x, 1, "."), 1);
        Checks.due("emptied", x.cell(1, 0, 0), -5);
        Checks.due("a single cell is no word", Checks.row(x, 3, "a.b.c.d"), 1);
        Checks.due("the last row", Checks.row(x, 6, "..zz"), 2);
        Checks.due("states are recorded, the latest four", x.count(12), 4);
        Checks.due("the same row again is an act", x.setRow(6), 2);
        Checks.due("undo of it", x.undo(), 3);
        Checks.due("still there", x.cell(6, 2, 0), 26);
        Checks.due("undo of the row", x.undo(), 2);
        Checks.due("gone", x.cell(6, 2, 0), -5);
        Checks.due("and its word", x.count(1), 1);
    }

    private static void rowsForgetGuesses() {
        SoldLetters x = Checks.plain();
        Checks.row(x, 0, "abc");
        x.buy(1);
        x.guess(2, 'x');
        x.guess(20, 'y');
        x.guess(26, 'w');
        Checks.row(x, 5, "aa");
        Checks.due("bought guess is gone", x.number(1, 1), -5);
        Checks.due("nothing is fixed", x.number(1, 3), 0);
        Checks.due("guess is gone", x.number(2, 1), -5);
        Checks.due("guess without cells is gone", x.number(20, 1), -5);
        Checks.due("guess of the last number is gone", x.number(26, 1), -5);
        Checks.due("coins stay", x.count(3), 28);
        Checks.due("bought stays", x.count(8), 1);
        x.undo();
        Checks.due("bought guess is back", x.number(1, 1), 'a');
        Checks.due("fixed is back", x.number(1, 3), 1);
        Checks.due("guess is back", x.number(20, 1), 'y');
    }

    private static void keys() {
        SoldLetters y = new SoldLetters();
        Checks.row(y, 0, "az");
        Checks.due("a at first", y.cell(0, 0, 0), 4);
        Checks.due("z at first", y.cell(0, 1, 0), 23);
        Checks.due("words stay", y.setKey(7, 4), 5);
        Checks.due("one word", y.count(1), 1);
        Checks.due("another factor, the same shift", y.setKey(9, 4), 5);
        Checks.due("undo", y.undo(), 2);
        Checks.due("factor is back", y.count(10), 7);
        Checks.due("undo", y.undo(), 1);
        Checks.due("shift is back", y.count(11), 3);
        Checks.due("a is back", y.cell(0, 0, 0), 4);
    }

    private static void keyForgetsGuesses() {
        SoldLetters x = Checks.plain();
        Checks.row(x, 0, "ab");
        x.buy(1);
        x.guess(2, 'x');
        x.setKey(1, 5);
        Checks.due("no guess", x.count(5), 0);
        for (int number = 1; number <= 26; number++) {
            Checks.due("gone", x.number(number, 1), -5);
            Checks.due("free", x.number(number, 3), 0);
        }
    }

    private static void wordsInOrder() {
        SoldLetters x = Checks.plain();
        Checks.row(x, 0, "ab.cde");
        Checks.row(x, 1, "a..f");
        Checks.row(x, 2, "....gh");
        Checks.due("six words", Checks.row(x, 3, "i...j"), 6);
        int[][] due = {{0, 0, 2, 0}, {0, 3, 3, 0}, {2, 4, 2, 0}, {0, 0, 2, 1}, {0, 3, 2, 1}, {2, 4, 2, 1}};
        for (int word = 0; word < due.length; word++) {
            for (int what = 0; what < 4; what++) {
                Checks.due("word(" + word + ", " + what + ")", x.word(word, what), due[word][what]);
            }
        }
        Checks.due("no seventh", x.word(6, 0), -1);
        Checks.row(x, 5, "i");
        Checks.row(x, 6, "k");
        Checks.due("two down in a column, by rows", x.word(4, 0), 5);
        Checks.due("two down in a column, its column", x.word(4, 1), 0);
        Checks.due("the next column after both", x.word(5, 1), 3);
    }

    private static void mostWords() {
        SoldLetters x = Checks.plain();
        for (int row = 0; row < 7; row++) {
            Checks.row(x, row, "abc.def");
        }
        Checks.due("down words are as long as the grid", x.count(1), 20);
        Checks.due("in the last column", x.word(19, 1), 6);
        Checks.due("of seven cells", x.word(19, 2), 7);
        Checks.row(x, 3, "...a");
        Checks.due("two in each line but one", x.count(1), 24);
        Checks.row(x, 3, "aaaaaaa");
        Checks.due("all joined", x.count(1), 12 + 1 + 6);
        Checks.row(x, 3, "a..a..a");
        Checks.due("no other but these", x.count(1), 12 + 2 + 8);
    }

    private static void cells() {
        SoldLetters x = Checks.plain();
        Checks.row(x, 0, "abc");
        Checks.row(x, 1, "d.e.f");
        x.guess(4, 'q');
        x.guess(6, 'r');
        int[][][] due = {
            {{1, -5, 0, 1}, {2, -5, 0, -5}, {3, -5, 0, 2}, {-5, -5, -5, -5}, {-5, -5, -5, -5}},
            {{4, 'q', -5, 1}, {-5, -5, -5, -5}, {5, -5, -5, 2}, {-5, -5, -5, -5}, {6, 'r', -5, -5}}};
        for (int row = 0; row < 2; row++) {
            for (int column = 0; column < 5; column++) {
                for (int what = 0; what < 4; what++) {
                    String call = "cell(" + row + ", " + column + ", " + what + ")";
                    Checks.due(call, x.cell(row, column, what), due[row][column][what]);
                }
            }
        }
        Checks.due("last cell", x.cell(6, 6, 0), -5);
    }

    private static void numbers() {
        SoldLetters x = Checks.plain();
        Checks.row(x, 0, "aab.a");
        Checks.row(x, 1, "a.a");
        Checks.row(x, 2, "b");
        x.buy(2);
        x.guess(1, 'z');
        x.guess(26, 'y');
        int[][] due = {{5, 'z', 6, 0, 3}, {2, 'b', 3, 1, 3}, {0, -5, 1, 0, 0}};
        for (int number = 1; number <= 3; number++) {
            for (int what = 0; what < 5; what++) {
                Checks.due("number(" + number + ", " + what + ")", x.number(number, what), due[number - 1][what]);
            }
        }
        Checks.due("guess of a number without cells", x.number(26, 1), 'y');
        Checks.row(x, 0, "c");
        Checks.row(x, 1, ".");
        Checks.row(x, 2, ".");
        Checks.due("a cell in no word has a number", x.number(3, 0), 1);
        Checks.due("but its number no word", x.number(3, 4), 0);
    }

    private static void words() {
        SoldLetters x = Checks.plain();
        Checks.words(x, "xx,xy,zy,xyx,xyz");
        Checks.row(x, 0, "aba");
        Checks.due("fitting", x.word(0, 5), 1);
        Checks.due("first", x.word(0, 6), 3);
        Checks.row(x, 0, "ab");
        Checks.due("two cells", x.word(0, 2), 2);
        Checks.due("none guessed", x.word(0, 4), 0);
        Checks.due("two fit", x.word(0, 5), 2);
        Checks.due("the first is xy", x.word(0, 6), 1);
        x.guess(1, 'z');
        Checks.due("one guessed", x.word(0, 4), 1);
        Checks.due("one fits", x.word(0, 5), 1);
        Checks.due("zy", x.word(0, 6), 2);
        x.dropWord(0);
        Checks.due("the first of all", x.word(0, 6), 1);
        x.dropWord(0);
        Checks.due("zy is the first of all", x.word(0, 6), 0);
        x.guess(1, 'q');
        Checks.due("none fits", x.word(0, 5), 0);
        Checks.due("none first", x.word(0, 6), -5);
        Checks.row(x, 0, "aabaa");
        x.guess(1, 'z');
        Checks.due("cells, not numbers", x.word(0, 4), 4);
    }

    /** Words that end in the last cell, with nothing behind them but the next row, or nothing at all. */
    private static void lastCorner() {
        SoldLetters x = Checks.plain();
        Checks.row(x, 0, "zz");
        Checks.row(x, 1, "z");
        Checks.row(x, 0, ".....ab");
        Checks.row(x, 5, "......c");
        Checks.row(x, 6, ".....de");
        Checks.due("three words", x.count(1), 3);
        x.guess(26, 'q');
        Checks.due("two cells are without a guess", x.word(0, 4), 0);
        Checks.due("none wrong", x.check(0), 0);
        Checks.due("none of those is z", x.number(26, 4), 0);
        Checks.words(x, "xy,vw");
        Checks.due("x, v across and the other way down", x.listed(0, 1), 3);
        Checks.due("two letters' prices", x.listed(0, 2), 4);
        Checks.due("two numbers", x.guessWord(1, 0), 2);
        Checks.due("d", x.cell(6, 5, 1), 'x');
        Checks.due("e", x.cell(6, 6, 1), 'y');
        Checks.due("e is guessed in the word down", x.word(2, 4), 1);
        Checks.due("and wrong", x.check(2), 1);
        Checks.due("vw, xy do not fit it", x.word(2, 5), 0);
        Checks.due("c is free", x.could(3, 0), 23);
        Checks.due("its words", x.number(5, 4), 2);
        Checks.row(x, 0, ".");
        Checks.due("the first that fits ends in the last cell", x.listed(0, 2), 4);
        Checks.row(x, 0, ".....ab");
        Checks.row(x, 1, "z");
        Checks.due("z of the next row costs nothing", x.listed(0, 2), 4);
    }
}
