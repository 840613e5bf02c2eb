/** The edges under '1 THE LIBRARY', of its text and of promises 2 to 4: a method for each sentence. */
public final class TextEdgesTest {
    private static final String LINE = "line 1 2;";
    private static final String READER = "reader thief 3;";

    public static void main(String[] args) {
        textOf400Bytes();
        bytesOfALong();
        sixteenLines();
        worthOfALine();
        shadeOfItsPage();
        eightReaders();
        fiveKinds();
        daysOfAReader();
        errorOfAHundred();
        errorUntold();
        errorOnce();
        figuresOfNumbers();
        lettersOfWords();
        blanksAnywhere();
        blanksWithin();
        oneBlankBetween();
        firstFault();
        faultAtTheEnd();
        leastFault();
        cannotStand();
        textIsEmptyThen();
        faultyTextChangesNothing();
        byteOfTheLatest();
        libraryBeginsAnew();
        Check.finish("TextEdgesTest");
    }

    private static void sound(String text, int lines) {
        Run.fresh().feeds(text).due("library()", lines).due("fault()", Check.NONE);
    }

    private static void faulty(String text, int number, int at) {
        Run.fresh().feeds(text).due("library()", -10 - number).due("fault()", at);
    }

    private static String blanks(int n) {
        return " ".repeat(n);
    }

    /** 'a text (400 bytes at most)'; feed: 'FULL (400)'. */
    private static void textOf400Bytes() {
        Run.fresh().feeds(blanks(392)).due("feed(8, 0)", 400);
        Run.fresh().feeds(blanks(393)).refuses(Check.FULL, "feed(8, 0)").due("feed(7, 0)", 400);
        Run.fresh().feeds(blanks(399)).refuses(Check.FULL, "feed(2, 0)", "feed(8, 0)").due("feed(1, 0)", 400);
        Run full = Run.fresh().feeds(blanks(392) + "error 7;");
        full.refuses(Check.FULL, "feed(1, 32)", "feed(8, 32)").due("told(6)", 400).due("library()", 0).due("told(8)", 7);
        full.due("feed(8, 0)", 8);
    }

    /** feed: 'Up to eight bytes (n 1 .. 8) of a long, the highest of these first'. */
    private static void bytesOfALong() {
        Run x = Run.fresh().feeds("line 1 ");
        x.refuses(Check.OUTSIDE, "feed(0, 59)", "feed(-1, 59)", "feed(9, 59)", "feed(2147483647, 59)", "feed(-2147483648, 59)");
        // All higher bytes of the long are set, but one byte is asked for.
        x.due("feed(1, " + (-256L | '5') + ")", 8).due("feed(1, " + (-256L | ';') + ")", 9).due("library()", 1).due("page(0, 2)", 5);
        Run y = Run.fresh().due("feed(8, " + Check.pack("line 42 ") + ")", 8).due("feed(2, " + Check.pack("3;") + ")", 10);
        y.due("library()", 1).due("line(0, 0)", 42).due("page(0, 2)", 3);
        // The highest byte of eight is above 127, so the long is below 0.
        Run.fresh().due("feed(8, " + (0xffL << 56 | Check.pack("line 1 ")) + ")", 8).due("library()", -11).due("fault()", 0);
    }

    /** '(16 LINES at most ..'; FAULT 3 'a 17th LINE .. (at its first letter)'. */
    private static void sixteenLines() {
        sound(LINE.repeat(15), 15);
        sound(LINE.repeat(16), 16);
        sound(LINE.repeat(16) + READER + "error 1;", 16);
        faulty(LINE.repeat(17), 3, 144);
        faulty(LINE.repeat(16) + "   " + LINE, 3, 147);
        faulty(READER + LINE.repeat(16) + "error 1;line", 3, 167);
    }

    /** 'worth V 0 .. 99'. */
    private static void worthOfALine() {
        Run.of("line 0 0;line 99 0;").due("line(0, 0)", 0).due("line(1, 0)", 99);
        faulty("line 100 0;", 2, 5);
        faulty("line 999 0;", 2, 5);
    }

    /** 'its PAGE has SHADE S, 0 .. 9'. */
    private static void shadeOfItsPage() {
        Run.of("line 1 0;line 1 8;line 1 9;").due("page(0, 2)", 0).due("page(1, 2)", 8).due("page(2, 2)", 9).due("told(9)", 2);
        faulty("line 1 10;", 2, 7);
        faulty("line 1 99;", 2, 7);
    }

    /** '(8 READERS at most ..'; FAULT 3 'a ninth READER (at its first letter)'. */
    private static void eightReaders() {
        Run.of(READER.repeat(7)).due("told(1)", 7);
        Run.of(READER.repeat(8)).due("told(1)", 8);
        Run.of(READER.repeat(8) + LINE + "error 1;").due("told(1)", 8);
        faulty(READER.repeat(9), 3, 120);
        faulty(READER.repeat(8) + LINE + "  reader", 3, 131);
    }

    /** 'KIND one of .., numbered so'. */
    private static void fiveKinds() {
        String[] kinds = {"silent", "aloud", "copyist", "thief", "teacher"};
        for (int k = 0; k < kinds.length; k++) {
            Run.of("reader " + kinds[k] + " 5;").due("reader(0, 0)", k);
            faulty("reader " + kinds[k].substring(1) + " 5;", 1, 7);
            faulty("reader x" + kinds[k].substring(1) + " 5;", 1, 7);
            faulty("reader " + kinds[k].substring(0, kinds[k].length() - 1) + " 5;", 1, 7);
            faulty("reader " + kinds[k] + "s 5;", 1, 7);
        }
        faulty("reader 5;", 1, 7);
        faulty("reader reader 5;", 1, 7);
        faulty("reader ;", 1, 7);
        faulty("reader", 1, 6);
    }

    /** 'forgets behind F days, 1 .. 99'. */
    private static void daysOfAReader() {
        Run.of("reader thief 1;reader thief 99;").due("reader(0, 1)", 1).due("reader(1, 1)", 99);
        faulty("reader thief 0;", 2, 13);
        faulty("reader thief 00;", 2, 13);
        faulty("reader thief 000;", 2, 13);
        faulty("reader thief 100;", 2, 13);
    }

    /** ''error' E ';' (0 .. 100 of a hundred'. */
    private static void errorOfAHundred() {
        Run.of("error 0;").due("told(8)", 0);
        Run.of("error 100;").due("told(8)", 100);
        faulty("error 101;", 2, 6);
        faulty("error 999;", 2, 6);
    }

    /** '10 untold': on a new object, and in a library behind one that told it. */
    private static void errorUntold() {
        Run.fresh().due("told(8)", 10);
        Run.of("").due("told(8)", 10);
        Run.of("error 100;").feeds(LINE).due("library()", 1).due("told(8)", 10);
        // A faulty text that told an E tells nothing.
        Run.of("").feeds("error 55;x").due("library()", -11).due("told(8)", 10);
        Run.of("error 44;").feeds("error 55;x").due("library()", -11).due("told(8)", 44);
    }

    /** 'once'; FAULT 3 ''error' again (at its first letter)'. */
    private static void errorOnce() {
        faulty("error 1;error 1;", 3, 8);
        faulty("error 10;" + LINE + " error 10;", 3, 19);
        faulty("error 0;error", 3, 8);
        // What an earlier text told does not count.
        Run.of("error 1;").feeds("error 2;").due("library()", 0).due("told(8)", 2);
        Run.fresh().feeds("error 1;error 2;").due("library()", -13).feeds("error 3;").due("library()", 0).due("told(8)", 3);
    }

    /** 'NUMBERS have one to three figures'; FAULT 2 'a NUMBER of four figures or more .. (at its first)'. */
    private static void figuresOfNumbers() {
        Run.of("line 7 7;line 07 07;line 007 007;").due("line(2, 0)", 7).due("page(2, 2)", 7).due("line(1, 0)", 7);
        Run.of("reader thief 001;error 010;").due("reader(0, 1)", 1).due("told(8)", 10);
        sound("line 000 000;", 1);
        faulty("line 0000 0;", 2, 5);
        faulty("line 0007 0;", 2, 5);
        faulty("line 0 0000;", 2, 7);
        faulty("reader thief 0001;", 2, 13);
        faulty("error 0100;", 2, 6);
        faulty("error 00000000000000000001;", 2, 6);
        faulty("error 4294967296;", 2, 6);
        faulty("error 18446744073709551616;", 2, 6);
        faulty("error " + "0".repeat(394), 2, 6);
        faulty("error ;", 1, 6);
        faulty("error -1;", 1, 6);
        faulty("error +1;", 1, 6);
        faulty("error 1.0;", 1, 7);
        // The signs beside 0 and 9.
        faulty("error /;", 1, 6);
        faulty("error :;", 1, 6);
        faulty("error 1/;", 1, 7);
        faulty("error 1:;", 1, 7);
    }

    /** 'words are letters a .. z side by side'. */
    private static void lettersOfWords() {
        faulty("linea 1 2;", 1, 0);
        faulty("linez 1 2;", 1, 0);
        faulty("aline 1 2;", 1, 0);
        // The signs beside a and z, and capitals, are no letters: the word ends ahead of them.
        faulty("line` 1 2;", 1, 4);
        faulty("line{ 1 2;", 1, 4);
        faulty("lineA 1 2;", 1, 4);
        faulty("lineZ 1 2;", 1, 4);
        faulty("Line 1 2;", 1, 0);
        faulty("line" + (char) 225 + " 1 2;", 1, 4);
    }

    /** 'blanks (32) may stand anywhere but ..'. */
    private static void blanksAnywhere() {
        sound(blanks(400), 0);
        sound("  line   1   2   ;   ", 1);
        sound("   reader   thief   3   ;   error   4   ;   ", 0);
        sound("line1 2;reader thief3;error4;line5 6;", 2);
        sound(blanks(391) + LINE, 1);
        int[] noBlanks = {0, 9, 10, 13, 31, 33, 127, 128, 160, 255};
        for (int sign : noBlanks) {
            faulty("line" + (char) sign + "1 2;", 1, 4);
            faulty("" + (char) sign, 1, 0);
            faulty(LINE + (char) sign, 1, 9);
        }
    }

    /** '.. but within words and NUMBERS'. */
    private static void blanksWithin() {
        faulty("li ne 1 2;", 1, 0);
        faulty("l ine 1 2;", 1, 0);
        faulty("lin e 1 2;", 1, 0);
        faulty("reader th ief 3;", 1, 7);
        faulty("error 1 0;", 1, 8);
        faulty("line 1 2 3;", 1, 9);
    }

    /** 'two words, two NUMBERS side by side need one'. */
    private static void oneBlankBetween() {
        faulty("readerthief 3;", 1, 0);
        sound("reader thief 3;", 0);
        faulty("line 12;", 1, 7);
        faulty("line 99;", 1, 7);
        faulty("line 123;", 2, 5);
        sound("line 1 2;", 1);
    }

    /** 'FAULTS, at the first byte that has one'. */
    private static void firstFault() {
        faulty("line 100 10;error 101;", 2, 5);
        faulty("line 1 10;line 100 2;", 2, 7);
        faulty("line 100 x;", 2, 5);
        faulty("line x 100;", 1, 5);
        faulty("line 100", 2, 5);
        faulty("line 1000x", 2, 5);
        faulty(LINE.repeat(16) + "line 100 10;", 3, 144);
        faulty(LINE.repeat(16) + "line x", 3, 144);
        faulty(LINE.repeat(15) + "line 100 2;line 1 2;", 2, 140);
        faulty(READER.repeat(8) + "reader x 0;", 3, 120);
        faulty("error 1;error 1000;", 3, 8);
        faulty("error 1000;error 1;", 2, 6);
    }

    /** '(the end at the text's length)'. */
    private static void faultAtTheEnd() {
        sound("", 0);
        String[] cut = {"line", "line 1", "line 1 2", "reader", "reader thief", "reader thief 3", "error", "error 4"};
        for (String text : cut) {
            faulty(text, 1, text.length());
            faulty(text + "   ", 1, text.length() + 3);
            faulty(blanks(400 - text.length()) + text, 1, 400);
            faulty(LINE + text, 1, 9 + text.length());
        }
    }

    /** 'of these the least': a byte that has two. */
    private static void leastFault() {
        faulty("1000", 1, 0);
        faulty("line 1 2 1000;", 1, 9);
        faulty("reader 1000;", 1, 7);
        faulty(LINE + "100;", 1, 9);
        faulty(LINE.repeat(16) + "reader line 3;", 1, 151);
        faulty(LINE.repeat(16) + "error line;", 1, 150);
        faulty(READER.repeat(8) + "line reader 3;", 1, 125);
        faulty("error 1;line error 2;", 1, 13);
        faulty("error 1;reader error 2;", 1, 15);
    }

    /** '1 it cannot stand there (a word that cannot: at its first letter)'. */
    private static void cannotStand() {
        faulty(";", 1, 0);
        faulty(LINE + ";", 1, 9);
        faulty("  5", 1, 2);
        faulty("  lines 1 2;", 1, 2);
        faulty("  lin", 1, 2);
        faulty("mine 1 2;", 1, 0);
        faulty("lint 1 2;", 1, 0);
        faulty("header thief 3;", 1, 0);
        faulty("errof 3;", 1, 0);
        faulty("thief 3;", 1, 0);
        faulty("line;", 1, 4);
        faulty("line 1;", 1, 6);
        faulty("line 1 2 line 1 2;", 1, 9);
        faulty("line 1 2reader", 1, 8);
        faulty("line one 2;", 1, 5);
        faulty("reader thief;", 1, 12);
        faulty("reader thief aloud 3;", 1, 13);
        faulty("reader thief 3 4;", 1, 15);
        faulty("error five;", 1, 6);
    }

    /** library: 'THE TEXT (it is empty then)', sound or not. */
    private static void textIsEmptyThen() {
        Run.of(LINE).due("told(6)", 0).due("feed(3, 0)", 3);
        Run.fresh().feeds("line 1 2;x").due("library()", -11).due("told(6)", 0).feeds(LINE).due("library()", 1);
        Run.of(LINE).due("library()", 0).due("told(0)", 0).due("told(2)", 0);
    }

    /** library: '-10 less the number of its FAULT (all is as it was)'. */
    private static void faultyTextChangesNothing() {
        String[] bad = {LINE + "x", LINE + "line 1 10;", READER + LINE.repeat(17), "error 1;error 2;", "reader silent 5;error"};
        for (String text : bad) {
            // The first library() ends the text of the house, with a fault; then the same fault comes twice, so that the
            // byte of the latest is the same too.
            Run x = Run.house().does("library()").feeds(text).does("library()");
            String[] more = new String[(text.length() + 7) / 8 + 1];
            for (int i = 0; i < more.length - 1; i++) {
                String part = text.substring(8 * i, Math.min(text.length(), 8 * i + 8));
                more[i] = "feed(" + part.length() + ", " + Check.pack(part) + ")";
            }
            more[more.length - 1] = "library()";
            x.leavesAll(more);
        }
    }

    /** fault: 'The byte of the FAULT of the latest library(); NONE'. */
    private static void byteOfTheLatest() {
        Run x = Run.fresh().due("fault()", Check.NONE).feeds("  x").due("fault()", Check.NONE);
        x.due("library()", -11).due("fault()", 2).due("fault()", 2);
        x.feeds(LINE).due("fault()", 2).due("library()", 1).due("fault()", Check.NONE);
        x.feeds("x").due("library()", -11).due("fault()", 0).feeds("line 1 10;").due("library()", -12).due("fault()", 7);
        x.due("library()", 0).due("fault()", Check.NONE);
    }

    /** library: '(THE DAY 0, nobody KNOWS anything, no READINGS, REQUESTS, DIARY; IMAGES are gone): how many LINES'. */
    private static void libraryBeginsAnew() {
        Run x = Run.house().does("keep(1)").due("library()", -13);
        x.feeds("line 9 0;".repeat(16) + READER.repeat(8)).due("library()", 16).due("told(7)", 0).due("told(4)", 0);
        x.due("told(3)", 0).due("told(5)", 0).due("told(2)", 16).due("judge()", Check.NONE).due("reading(0, 0)", Check.NONE);
        for (int r = 0; r < 8; r++) {
            x.due("reader(" + r + ", 2)", 0);
        }
        for (int l = 0; l < 16; l++) {
            x.due("line(" + l + ", 3)", 0).due("line(" + l + ", 5)", 0).due("page(" + l + ", 2)", 0).due("page(" + l + ", 3)", 0);
        }
        x.refuses(Check.NOT, "goBack(0)", "goBack(1)").refuses(Check.UNKNOWN, "grant(1)", "page(16, 0)");
        // Where copies of the old library stood, there are first pages of the new one.
        Run y = Run.of("line 1 8;reader copyist 9;error 100;").does("copy(0, 0)", "copy(0, 1)");
        y.feeds("line 1 3;line 1 4;line 1 5;").due("library()", 3);
        for (int l = 0; l < 3; l++) {
            y.due("page(" + l + ", 0)", l).due("page(" + l + ", 1)", 0).due("page(" + l + ", 2)", l + 3).due("whence(" + l + ", 2)", 0);
        }
    }
}
