/** The boundaries of THE GRID: its rows and columns, the words' lengths and numbers, the empty and the full grid. */
public final class GridEdgesTest {
    /** A grid with as many words as there can be: two in each row and two in each column. */
    private static final String[] MOST = {"aa.aa.a", "a.aa.aa", ".aa.aa.", "aa.aa.a", "a.aa.aa", ".aa.aa.", "aaa.aaa"};

    public static void main(String[] args) {
        emptyAtFirst();
        fullGrid();
        firstAndLastRow();
        firstAndLastColumn();
        lettersAToZ();
        oneCellIsNoWord();
        twoCellsAreAWord();
        sevenCellsAreAWord();
        asLongAsPossible();
        noWordGoesRoundTheEdge();
        numberedAcrossThenDown();
        mostWords();
        emptiedAgain();
        Checks.end();
    }

    /** "A cell is black (at first)": a new object has no word, cell or number, and count(7) is 0 without cells. */
    private static void emptyAtFirst() {
        SoldLetters x = new SoldLetters();
        for (int row = 0; row < 7; row++) {
            for (int column = 0; column < 7; column++) {
                Checks.due("black at first", x.cell(row, column, 0), SoldLetters.NONE);
            }
        }
        for (int number = 1; number <= 26; number++) {
            Checks.due("cells with " + number, x.number(number, 0), 0);
            Checks.due("words with " + number, x.number(number, 4), 0);
        }
        int[] counts = {0, 1, 4, 5, 6, 7};
        for (int what : counts) {
            Checks.due("count " + what + " of a new object", x.count(what), 0);
        }
    }

    /** 49 letters make 14 words of 7. */
    private static void fullGrid() {
        SoldLetters x = Checks.plain("aaaaaaa", "aaaaaaa", "aaaaaaa", "aaaaaaa", "aaaaaaa", "aaaaaaa");
        Checks.due("the last row fills it", Checks.row(x, 6, "aaaaaaz"), 14);
        Checks.due("cells", x.count(0), 49);
        Checks.due("numbers", x.count(4), 2);
        Checks.due("cells with a", x.number(1, 0), 48);
        Checks.due("words with a", x.number(1, 4), 14);
        Checks.due("words with z", x.number(26, 4), 2);
        Checks.due("guessed", x.guess(1, 'a'), 48);
        Checks.due("all but one", x.count(7), 0);
        Checks.due("all guessed", x.guess(26, 'z'), 49);
        Checks.due("solved", x.count(7), 1);
        for (int word = 0; word < 14; word++) {
            Checks.due("row of " + word, x.word(word, 0), word < 7 ? word : 0);
            Checks.due("column of " + word, x.word(word, 1), word < 7 ? 0 : word - 7);
            Checks.due("cells of " + word, x.word(word, 2), 7);
            Checks.due("guessed of " + word, x.word(word, 4), 7);
        }
        Checks.due("no fifteenth", x.word(14, 0), SoldLetters.UNKNOWN);
    }

    /** "row: 0 to 6". */
    private static void firstAndLastRow() {
        SoldLetters x = Checks.plain();
        Checks.text(x, "ab");
        Checks.due("the first row", x.setRow(0), 1);
        Checks.due("the last row", x.setRow(6), 2);
        Checks.due("the row before the first", x.setRow(-1), SoldLetters.UNKNOWN);
        Checks.due("the row after the last", x.setRow(7), SoldLetters.UNKNOWN);
        Checks.due("b in the first row", x.cell(0, 1, 0), 2);
        Checks.due("b in the last row", x.cell(6, 1, 0), 2);
        Checks.due("its word", x.cell(6, 1, 2), 1);
        Checks.due("the cell before the first row", x.cell(-1, 1, 0), SoldLetters.UNKNOWN);
        Checks.due("the cell after the last row", x.cell(7, 1, 0), SoldLetters.UNKNOWN);
        for (int row = 1; row < 6; row++) {
            Checks.due("row " + row + " between", x.cell(row, 1, 0), SoldLetters.NONE);
        }
    }

    /** "column: 0 to 6". */
    private static void firstAndLastColumn() {
        SoldLetters x = Checks.plain("a.....z", "b.....y");
        Checks.due("the first column", x.cell(0, 0, 0), 1);
        Checks.due("the last column", x.cell(0, 6, 0), 26);
        Checks.due("the word down the first column", x.cell(1, 0, 3), 0);
        Checks.due("the word down the last column", x.cell(1, 6, 3), 1);
        Checks.due("before the first column", x.cell(1, -1, 0), SoldLetters.UNKNOWN);
        Checks.due("after the last column", x.cell(0, 7, 0), SoldLetters.UNKNOWN);
    }

    /** "has a letter from a to z": each stands, in each row; those beside a and z are faults (TextEdgesTest). */
    private static void lettersAToZ() {
        SoldLetters x = Checks.plain();
        for (char letter = 'a'; letter <= 'z'; letter++) {
            Checks.row(x, (letter - 'a') % 7, String.valueOf(letter));
            Checks.due("the number of " + letter, x.cell((letter - 'a') % 7, 0, 0), letter - 'a' + 1);
        }
    }

    /** "two or more cells": one alone is none, wherever it stands. */
    private static void oneCellIsNoWord() {
        for (int row = 0; row < 7; row++) {
            for (int column = 0; column < 7; column++) {
                SoldLetters x = Checks.plain();
                Checks.due("words of one cell", Checks.row(x, row, ".".repeat(column) + "q"), 0);
                Checks.due("no word", x.count(1), 0);
                Checks.due("one cell", x.count(0), 1);
                Checks.due("none across", x.cell(row, column, 2), SoldLetters.NONE);
                Checks.due("none down", x.cell(row, column, 3), SoldLetters.NONE);
                Checks.due("no word has its number", x.number(17, 4), 0);
            }
        }
        Checks.due("side by side in a corner alone", Checks.plain("a.b", ".c").count(1), 0);
    }

    /** "two or more cells": two are one, in each place across and down. */
    private static void twoCellsAreAWord() {
        for (int line = 0; line < 7; line++) {
            for (int place = 0; place < 6; place++) {
                SoldLetters across = Checks.plain();
                Checks.due("one across", Checks.row(across, line, ".".repeat(place) + "ab"), 1);
                word("across", across, 0, line, place, 2, 0);
                SoldLetters down = Checks.plain();
                Checks.row(down, place, ".".repeat(line) + "a");
                Checks.due("one down", Checks.row(down, place + 1, ".".repeat(line) + "b"), 1);
                word("down", down, 0, place, line, 2, 1);
            }
        }
    }

    private static void word(String what, SoldLetters x, int word, int row, int column, int cells, int down) {
        Checks.due(what + ", row of " + word, x.word(word, 0), row);
        Checks.due(what + ", column of " + word, x.word(word, 1), column);
        Checks.due(what + ", cells of " + word, x.word(word, 2), cells);
        Checks.due(what + ", whether " + word + " is down", x.word(word, 3), down);
    }

    private static void sevenCellsAreAWord() {
        for (int line = 0; line < 7; line++) {
            SoldLetters across = Checks.plain();
            Checks.due("one across", Checks.row(across, line, "abcdefg"), 1);
            word("across", across, 0, line, 0, 7, 0);
            SoldLetters down = Checks.plain();
            for (int row = 0; row < 7; row++) {
                Checks.row(down, row, ".".repeat(line) + "a");
            }
            Checks.due("one down", down.count(1), 1);
            word("down", down, 0, 0, line, 7, 1);
        }
    }

    /** "each as long as possible": parts of a word are no words, and a cell between two makes them one. */
    private static void asLongAsPossible() {
        for (int length = 2; length <= 7; length++) {
            SoldLetters x = Checks.plain();
            Checks.due("one of " + length, Checks.row(x, 0, "abcdefg".substring(0, length)), 1);
            word("across", x, 0, 0, 0, length, 0);
        }
        SoldLetters x = Checks.plain("abc.def");
        Checks.due("two", x.count(1), 2);
        Checks.due("joined", Checks.row(x, 0, "abcxdef"), 1);
        Checks.due("of seven", x.word(0, 2), 7);
        Checks.due("a long and a short one", Checks.row(x, 0, "abcd.ef"), 2);
        Checks.due("the last cell alone", Checks.row(x, 0, "abcde.f"), 1);
        SoldLetters y = Checks.plain("a", "a", "a", ".", "a", "a", "a");
        Checks.due("two down", y.count(1), 2);
        Checks.due("joined", Checks.row(y, 3, "a"), 1);
        Checks.due("of seven", y.word(0, 2), 7);
    }

    /** Words end at the edge: no row goes on in the next one, no column at the top of the next. */
    private static void noWordGoesRoundTheEdge() {
        SoldLetters x = Checks.plain("......a", "b.....c", "d");
        Checks.due("a, c down and b, d down alone", x.count(1), 2);
        word("b, d", x, 0, 1, 0, 2, 1);
        word("a, c", x, 1, 0, 6, 2, 1);
        SoldLetters y = Checks.plain(".b", ".", ".", ".", ".", ".", "a");
        Checks.due("the end of a column and the top of the next", y.count(1), 0);
        Checks.due("two of them", Checks.row(y, 5, "a"), 1);
        word("down the first column", y, 0, 5, 0, 2, 1);
        SoldLetters u = Checks.plain("......a", "bc");
        Checks.due("bc alone", u.count(1), 1);
        Checks.due("the cell before it is in no word", u.cell(0, 6, 2), SoldLetters.NONE);
        Checks.row(u, 1, ".....bc");
        Checks.row(u, 2, "d");
        Checks.due("the cell behind it is in no word", u.cell(2, 0, 2), SoldLetters.NONE);
        SoldLetters z = Checks.plain("....abc", "defg");
        Checks.due("four of the next row are another word", z.count(1), 2);
        word("abc", z, 0, 0, 4, 3, 0);
        word("defg", z, 1, 1, 0, 4, 0);
    }

    /** "those across by rows, then by columns, then those down by columns, then by rows". */
    private static void numberedAcrossThenDown() {
        SoldLetters x = Checks.plain("ab...cd", "e.....f", ".", ".", ".", "g.....h", "ij...kl");
        int[][] due = {{0, 0, 0}, {0, 5, 0}, {6, 0, 0}, {6, 5, 0}, {0, 0, 1}, {5, 0, 1}, {0, 6, 1}, {5, 6, 1}};
        Checks.due("eight words", x.count(1), due.length);
        for (int word = 0; word < due.length; word++) {
            word("in the corners", x, word, due[word][0], due[word][1], 2, due[word][2]);
        }
        Checks.due("the last", x.word(7, 0), 5);
        Checks.due("none behind it", x.word(8, 0), SoldLetters.UNKNOWN);
    }

    private static void mostWords() {
        SoldLetters x = Checks.plain(MOST);
        Checks.due("28 words", x.count(1), 28);
        Checks.due("each has the letter", x.number(1, 4), 28);
        for (int word = 0; word < 28; word++) {
            Checks.due("down from the fifteenth on", x.word(word, 3), word < 14 ? 0 : 1);
            Checks.due("two in a line", word < 14 ? x.word(word, 0) : x.word(word, 1), word / 2 % 7);
        }
        word("the last across", x, 13, 6, 4, 3, 0);
        word("the last", x, 27, 3, 6, 2, 1);
        Checks.due("the last word of its last cell", x.cell(4, 6, 3), 27);
        Checks.due("none behind it", x.word(28, 0), SoldLetters.UNKNOWN);
        Checks.words(x, "bb,bbb");
        Checks.due("of two or of three cells", x.listed(0, 1) + x.listed(1, 1), 28);
        Checks.due("the last word is guessed", x.guessWord(27, 0), 1);
        Checks.due("all cells", x.count(6), x.count(0));
        Checks.due("the last word is checked", x.check(27), 2);
        Checks.due("with all again", x.undo(), 3);
        Checks.due("still 28", x.count(1), 28);
    }

    /** A row of black cells empties a row, and the grid when it was the only one; words across and down are gone. */
    private static void emptiedAgain() {
        SoldLetters x = Checks.plain("abcdefg");
        x.guess(1, 'a');
        Checks.due("no word is left", Checks.row(x, 0, "......."), 0);
        Checks.due("no cell", x.count(0), 0);
        Checks.due("no number", x.count(4), 0);
        Checks.due("not solved", x.count(7), 0);
        Checks.due("no word 0", x.word(0, 0), SoldLetters.UNKNOWN);
        Checks.due("one word again", Checks.row(x, 6, ".....ab"), 1);
        SoldLetters y = Checks.plain("ab", "c");
        Checks.due("a word down", y.cell(0, 0, 3), 1);
        Checks.row(y, 1, ".");
        Checks.due("no word down any more", y.cell(0, 0, 3), SoldLetters.NONE);
        Checks.due("the word across stays", y.cell(0, 0, 2), 0);
    }
}
