/** The boundaries of TEXTS: their lengths, each character at each place, and the fault, the first one or the length. */
public final class TextEdgesTest {
    private static final String LETTERS = "abcdefghijklmnopqrstuvwxyz";

    public static void main(String[] args) {
        emptyAtFirst();
        atMostSixty();
        anyCharacter();
        clearing();
        rowsOfOneToSeven();
        rowCharacters();
        blackBehindTheText();
        blackCellsInTheText();
        firstFaultOfARow();
        wordCharacters();
        wordsOfTwoToSeven();
        commasBetweenTwo();
        wordsThatEndTooEarly();
        firstFaultOfWords();
        sixtyCharactersOfWords();
        theSameTextBothWays();
        lengthBehindAFault();
        typedBehindAFault();
        theTextStays();
        toldByWordsAlone();
        toldByARowAlone();
        fullUntilTwoWordsAreAlike();
        Checks.end();
    }

    private static int asRow(String text) {
        return Checks.row(new SoldLetters(), 0, text);
    }

    private static int asWords(String text) {
        return Checks.words(new SoldLetters(), text);
    }

    /** "empty at first", and its fault is 0, "the length of the text if it ends too early (the empty text does)". */
    private static void emptyAtFirst() {
        SoldLetters x = new SoldLetters();
        Checks.due("length", x.count(13), 0);
        Checks.due("as a row", x.setRow(0), -100);
        Checks.due("as words", x.addWords(), -100);
        Checks.due("the length that it had", x.clearText(), 0);
        x.type('a');
        x.clearText();
        Checks.due("empty again, as a row", x.setRow(0), -100);
        Checks.due("empty again, as words", x.addWords(), -100);
    }

    /** "at most 60 characters". */
    private static void atMostSixty() {
        SoldLetters x = new SoldLetters();
        for (int length = 1; length <= 60; length++) {
            Checks.due("typed", x.type('a'), length);
            Checks.due("length", x.count(13), length);
        }
        Checks.due("the 61st", x.type('a'), SoldLetters.FULL);
        Checks.due("the 61st again", x.type(','), SoldLetters.FULL);
        Checks.due("length", x.count(13), 60);
        Checks.due("the length that it had", x.clearText(), 60);
        Checks.due("room again", x.type('a'), 1);
    }

    /** "any character", 0 to 65535: each is typed, and is a fault of neither text only where it may be. */
    private static void anyCharacter() {
        SoldLetters x = null;
        for (int character = 0; character <= 65535; character++) {
            if (character % 64 == 0) {
                x = new SoldLetters();
            }
            boolean isLetter = character <= 'z' && LETTERS.indexOf((char) character) >= 0;
            Checks.due("typed", x.type((char) character), 1);
            Checks.due("character " + character + " as a row", x.setRow(0), isLetter || character == '.' ? 0 : -100);
            Checks.due("character " + character + " as words", x.addWords(), isLetter ? -101 : -100);
            Checks.due("cleared", x.clearText(), 1);
        }
    }

    private static void clearing() {
        SoldLetters x = new SoldLetters();
        Checks.due("nothing", x.clearText(), 0);
        x.type('a');
        Checks.due("one", x.clearText(), 1);
        Checks.due("nothing again", x.clearText(), 0);
        Checks.due("no act", x.count(12), 0);
        Checks.text(x, "abcde");
        Checks.text(x, "z");
        Checks.due("one letter alone", x.setRow(0), 0);
        Checks.due("nothing of the longer text", x.count(0), 1);
    }

    /** "A text of a row is 1 to 7 characters". */
    private static void rowsOfOneToSeven() {
        String text = "abcdefghi";
        int[] dues = {-100, 0, 1, 1, 1, 1, 1, 1, -107, -107};
        for (int length = 0; length < dues.length; length++) {
            Checks.due(length + " letters as a row", asRow(text.substring(0, length)), dues[length]);
            int due = length == 0 ? -100 : length <= 7 ? 0 : -107;
            Checks.due(length + " black cells as a row", asRow(".........".substring(0, length)), due);
        }
        Checks.due("sixty letters", asRow("a".repeat(60)), -107);
        Checks.due("seven letters and a comma", asRow("abcdefg,"), -107);
    }

    /** "each a letter from a to z, or ".": those beside them are none, at the first and the last place. */
    private static void rowCharacters() {
        String bad = "`{AZ@[-/ ,\u0000\u007f\u00e1\u0161\u017a\uff41\uffff";
        for (char c : bad.toCharArray()) {
            for (int place = 0; place < 7; place++) {
                String text = "a.cdefg".substring(0, place) + c + "z.abcde".substring(place);
                Checks.due("character " + (int) c + " at " + place, asRow(text), -100 - place);
            }
        }
        for (char c : (LETTERS + ".").toCharArray()) {
            Checks.due(c + " first", asRow(c + "bcdefg"), 1);
            Checks.due(c + " last", asRow("abcdef" + c), 1);
            Checks.due(c + " eighth", asRow("abcdefg" + c), -107);
        }
    }

    /** "cells behind it are black": also those that had letters. */
    private static void blackBehindTheText() {
        for (int length = 1; length <= 7; length++) {
            SoldLetters x = Checks.plain("zzzzzzz");
            Checks.row(x, 0, "abcdefg".substring(0, length));
            for (int column = 0; column < 7; column++) {
                Checks.due("column " + column + " of " + length, x.cell(0, column, 0), column < length ? column + 1 : SoldLetters.NONE);
            }
            Checks.due("cells", x.count(0), length);
        }
    }

    private static void blackCellsInTheText() {
        SoldLetters x = Checks.plain("zzzzzzz");
        Checks.due("the first and the last are black", Checks.row(x, 0, ".abcde."), 1);
        Checks.due("the first", x.cell(0, 0, 0), SoldLetters.NONE);
        Checks.due("the last", x.cell(0, 6, 0), SoldLetters.NONE);
        Checks.due("one between", Checks.row(x, 0, "abc.def"), 2);
        Checks.due("seven", Checks.row(x, 0, "......."), 0);
        Checks.due("one", Checks.row(x, 0, "."), 0);
    }

    /** "the first character that is not allowed at its place", and not the length, which is a fault behind it. */
    private static void firstFaultOfARow() {
        Checks.due("two", asRow("ab?d!"), -102);
        Checks.due("one, and too long", asRow("abcde?gh"), -105);
        Checks.due("the last place, and too long", asRow("abcdef?h"), -106);
        Checks.due("too long, and one behind", asRow("abcdefgh?"), -107);
        Checks.due("at 0 and 1", asRow("??"), -100);
    }

    /** A word's characters are letters alone; ".", which a row may have, is none. */
    private static void wordCharacters() {
        String bad = "`{AZ@[-/ .;\u0000\u007f\u00e1\u012c\uff41\uffff";
        for (char c : bad.toCharArray()) {
            for (int place = 0; place < 7; place++) {
                String text = "ab,defg".substring(0, place) + c + "yz,abcd".substring(place);
                Checks.due("character " + (int) c + " at " + place, asWords(text), -100 - place);
            }
            Checks.due("character " + (int) c + " at the end", asWords("ab,cd" + c), -105);
        }
        for (char c : LETTERS.toCharArray()) {
            Checks.due(c + " first", asWords(c + "bcdefg"), 1);
            Checks.due(c + " last", asWords("abcdef" + c), 1);
            Checks.due(c + " eighth", asWords("abcdefg" + c), -107);
        }
    }

    /** "words (2 to 7 letters each)": the first, one between and the last. */
    private static void wordsOfTwoToSeven() {
        for (int length = 1; length <= 8; length++) {
            String word = "zyxwvuts".substring(0, length);
            boolean isOne = length >= 2 && length <= 7;
            Checks.due(word + " alone", asWords(word), isOne ? 1 : length == 1 ? -101 : -107);
            Checks.due(word + " first", asWords(word + ",ab"), isOne ? 2 : length == 1 ? -101 : -107);
            Checks.due(word + " between", asWords("ab," + word + ",cd"), isOne ? 3 : length == 1 ? -104 : -110);
            Checks.due(word + " last", asWords("abcdefg," + word), isOne ? 2 : length == 1 ? -109 : -115);
        }
    }

    /** "with "," between two": none at the beginning, none at the end, no two side by side. */
    private static void commasBetweenTwo() {
        Checks.due("a comma", asWords(","), -100);
        Checks.due("at the beginning", asWords(",ab"), -100);
        Checks.due("at the end", asWords("ab,"), -103);
        Checks.due("side by side", asWords("ab,,cd"), -103);
        Checks.due("side by side at the end", asWords("ab,,"), -103);
        Checks.due("behind a letter", asWords("a,b"), -101);
        Checks.due("behind the eighth letter", asWords("abcdefgh,ij"), -107);
        Checks.due("behind seven letters", asWords("abcdefg,ij"), 2);
        Checks.due("behind two letters", asWords("ab,ij"), 2);
    }

    /** "or the length of the text if it ends too early". */
    private static void wordsThatEndTooEarly() {
        Checks.due("one letter", asWords("a"), -101);
        Checks.due("one letter behind a word", asWords("ab,c"), -104);
        Checks.due("a comma behind a word", asWords("ab,"), -103);
        Checks.due("a comma behind the longest word", asWords("abcdefg,"), -108);
        SoldLetters x = new SoldLetters();
        int[] dues = {-101, 1, 1, 1, 1, 1, 1, -107};
        for (int length = 1; length <= 8; length++) {
            x.type((char) ('a' + length));
            Checks.due("after " + length, x.addWords(), dues[length - 1]);
        }
    }

    private static void firstFaultOfWords() {
        Checks.due("a bad character, and too early", asWords("a?"), -101);
        Checks.due("a bad character before one", asWords("abc?e!"), -103);
        Checks.due("a long word before a short one", asWords("abcdefgh,i"), -107);
        Checks.due("a short word before a long one", asWords("a,abcdefgh"), -101);
        Checks.due("two commas before a bad character", asWords("ab,,?"), -103);
    }

    private static void sixtyCharactersOfWords() {
        String thirteen = "ab,cd,ef,gh,ij,kl,mn,op,qr,st,uv,wx,yz,ab,cd,ef,gh,ij,kl,mn";
        Checks.due("59 characters, thirteen words", asWords(thirteen), SoldLetters.FULL);
        Checks.due("the sixtieth a comma", asWords(thirteen + ","), -160);
        Checks.due("the sixtieth a letter", asWords(thirteen + "z"), SoldLetters.FULL);
        Checks.due("the sixtieth a bad character", asWords(thirteen + "."), -159);
        Checks.due("the sixtieth an eighth letter", asWords("abc," + "abcdefg,".repeat(6) + "stuvwxyz"), -159);
        Checks.due("the sixtieth a letter alone", asWords("abcdefg,".repeat(7) + "ab,z"), -160);
        Checks.due("the last two a word", asWords("ab," + "abcdefg,".repeat(6) + "abcdef,yz"), 4);
        Checks.due("sixty characters, nine words", asWords(Games.SIXTY), 9);
    }

    /** "The fault of the text, as a row or as words": one text may have both, one or none, and at unlike places. */
    private static final String[] BOTH_WAYS = {
        "", "a", "ab", "abcdefg", ".", ",", "A", "a.b", "a,b", "ab.", "ab.cd", "ab,cd", "ab,cd,", "ab.?", "ab,c?", "ab,?d.?",
        "ab..cd,", "abcdefgh", "abcdefg,", "abcdefg,hi", "abcdefg.hi", ".abcdefgh", "abc,defg,hijklmno"};
    private static final int[] AS_ROW = {
        -100, 0, 1, 1, 0, -100, -100, 0, -101, 1, 2, -102, -102, -103, -102, -102,
        -106, -107, -107, -107, -107, -107, -103};
    private static final int[] AS_WORDS = {
        -100, -101, 1, 1, -100, -100, -100, -101, -101, -102, -102, 2, -106, -102, -104, -103,
        -102, -107, -108, 2, -107, -100, -116};

    private static void theSameTextBothWays() {
        for (int i = 0; i < BOTH_WAYS.length; i++) {
            Checks.due(BOTH_WAYS[i] + " as a row", asRow(BOTH_WAYS[i]), AS_ROW[i]);
            Checks.due(BOTH_WAYS[i] + " as words", asWords(BOTH_WAYS[i]), AS_WORDS[i]);
            SoldLetters x = new SoldLetters();
            Checks.text(x, BOTH_WAYS[i]);
            for (int times = 0; times < 2; times++) {
                Checks.due(BOTH_WAYS[i] + " as a row first", x.setRow(0), AS_ROW[i]);
                int due = times == 1 && AS_WORDS[i] >= 0 ? SoldLetters.NONE : AS_WORDS[i];
                Checks.due(BOTH_WAYS[i] + " as words then", x.addWords(), due);
            }
        }
    }

    /** "the length of the text", "the length of the text then", "the length that it had": all of it, whatever it is. */
    private static void lengthBehindAFault() {
        for (String text : BOTH_WAYS) {
            int length = text.length();
            SoldLetters x = new SoldLetters();
            x.keep();
            Checks.text(x, text);
            Checks.due("length of " + text, x.count(13), length);
            x.setRow(0);
            Checks.due("length of " + text + " after setRow", x.count(13), length);
            x.addWords();
            Checks.due("length of " + text + " after addWords", x.count(13), length);
            x.setRow(7);
            x.undo();
            x.restore();
            Checks.due("length of " + text + " after undo and restore", x.count(13), length);
            Checks.due("one more behind " + text, x.type('?'), length + 1);
            Checks.due("length then", x.count(13), length + 1);
            Checks.due("the length that it had", x.clearText(), length + 1);
            Checks.due("empty", x.count(13), 0);
            Checks.due("empty as a row", x.setRow(0), -100);
            Checks.due("empty as words", x.addWords(), -100);
        }
    }

    /** A fault stays the first one while characters that would be allowed come behind it, up to sixty. */
    private static void typedBehindAFault() {
        String[] beginnings = {"?", "ab.?", "ab,c?", "abcdefgh"};
        int[][] faults = {{-100, -100}, {-103, -102}, {-102, -104}, {-107, -107}};
        for (int i = 0; i < beginnings.length; i++) {
            SoldLetters x = new SoldLetters();
            Checks.text(x, beginnings[i]);
            for (int length = beginnings[i].length() + 1; length <= 60; length++) {
                Checks.due("typed behind " + beginnings[i], x.type("ab,".charAt(length % 3)), length);
                Checks.due("as a row", x.setRow(0), faults[i][0]);
                Checks.due("as words", x.addWords(), faults[i][1]);
                Checks.due("length", x.count(13), length);
            }
            Checks.due("full behind " + beginnings[i], x.type('a'), SoldLetters.FULL);
            Checks.due("length", x.count(13), 60);
            Checks.due("the length that it had", x.clearText(), 60);
        }
    }

    /** "the text, which stays": after both, and after what they refuse. */
    private static void theTextStays() {
        SoldLetters x = Checks.plain();
        Checks.text(x, "ab");
        Checks.due("as a row", x.setRow(0), 1);
        Checks.due("as words", x.addWords(), 1);
        Checks.due("as another row", x.setRow(6), 2);
        Checks.due("length", x.count(13), 2);
        Checks.due("typed behind it", x.type('c'), 3);
        Checks.due("three letters", x.setRow(6), 2);
        Checks.due("the third", x.cell(6, 2, 0), 3);
        x.type(',');
        Checks.due("refused as a row", x.setRow(6), -103);
        Checks.due("refused as words", x.addWords(), -104);
        x.type('d');
        x.type('e');
        Checks.due("two words", x.addWords(), 2);
        Checks.due("length", x.count(13), 6);
    }

    /** A text that setRow refuses and addWords does not: all its letters are there, also behind the row's fault. */
    private static void toldByWordsAlone() {
        SoldLetters x = Checks.plain("abcdefg");
        Checks.text(x, "zy,tuvwxyz");
        Checks.due("refused as a row", x.setRow(1), -102);
        Checks.due("one row still", x.count(0), 7);
        Checks.due("two words", x.addWords(), 2);
        Checks.due("refused again", x.setRow(1), -102);
        Checks.due("the second one fits", x.guessWord(0, 1), 7);
        for (int column = 0; column < 7; column++) {
            Checks.due("letter " + column, x.cell(0, column, 1), 't' + column);
        }
        Checks.row(x, 0, "ab");
        Checks.due("the first one fits", x.guessWord(0, 0), 2);
        Checks.due("z", x.cell(0, 0, 1), 'z');
        Checks.due("y", x.cell(0, 1, 1), 'y');
    }

    /** A text that addWords refuses and setRow does not: all its cells are there, also behind the words' fault. */
    private static void toldByARowAlone() {
        SoldLetters x = Checks.plain("zzzzzzz");
        Checks.text(x, "ab.c.de");
        Checks.due("refused as words", x.addWords(), -102);
        Checks.due("no list", x.count(2), 0);
        Checks.due("two words across", x.setRow(0), 2);
        Checks.due("refused again", x.addWords(), -102);
        int[] numbers = {1, 2, SoldLetters.NONE, 3, SoldLetters.NONE, 4, 5};
        for (int column = 0; column < 7; column++) {
            Checks.due("column " + column, x.cell(0, column, 0), numbers[column]);
        }
    }

    /** The refused text of thirteen words stays whole: one letter more makes the last like the first, and twelve come. */
    private static void fullUntilTwoWordsAreAlike() {
        SoldLetters x = new SoldLetters();
        Checks.text(x, "abc,aa,ac,ad,ae,af,ag,ah,ai,aj,ak,al,ab");
        Checks.due("thirteen", x.addWords(), SoldLetters.FULL);
        Checks.due("thirteen again", x.addWords(), SoldLetters.FULL);
        Checks.due("no list", x.count(2), 0);
        Checks.due("a letter more", x.type('c'), 40);
        Checks.due("twelve", x.addWords(), 12);
        Checks.due("none more", x.addWords(), SoldLetters.NONE);
        Checks.due("abc is the first", x.listed(0, 0), 3);
        Checks.due("al is the last", x.listed(11, 0), 2);
        Checks.due("another letter", x.type('d'), 41);
        Checks.due("abcd is a thirteenth", x.addWords(), SoldLetters.FULL);
    }
}
