/** The edges at the head of 'Terms': numbers, sets, the order of the refusals; and that what is refused changes nothing. */
public final class TermsEdgesTest {
    public static void main(String[] args) {
        the512thCall();
        cutsTowardsNought();
        numbersFromNoughtOn();
        bitKForK();
        unknownBits();
        unknownLines();
        unknownReaders();
        unknownPages();
        unknownImages();
        unknownAheadOfOutside();
        unknownAheadOfNot();
        unknownAheadOfFull();
        outsideAheadOfNot();
        outsideAheadOfFull();
        notAheadOfFull();
        refusedAgain();
        Check.finish("TermsEdgesTest");
    }

    /** 'An object is used for at most 512 calls': the last of them is answered like all others. */
    private static void the512thCall() {
        Run x = Run.of("line 7 0;reader copyist 99;reader silent 1;error 0;");
        while (x.length() < 509) {
            x.does("dusk(1)");
        }
        x.due("told(7)", 509 - 8).due("read(1, 0)", 1).due("knows(1, 0, 1)", 509 - 8);
        Check.due("calls", x.length(), 512);
    }

    /** '/ cuts towards 0'. */
    private static void cutsTowardsNought() {
        Run.fresh().asks("life(8, 99, 1)", 1000000000 - 10101010);
        Run.of("error 99;").asks("right(4)", 4);
    }

    /** 'What has a number has it from 0 on, as it comes'. */
    private static void numbersFromNoughtOn() {
        Run x = Run.of("reader teacher 4;line 50 5;error 0;reader copyist 3;line 60 6;line 70 7;reader silent 2;");
        x.due("line(0, 0)", 50).due("line(1, 0)", 60).due("line(2, 0)", 70).due("reader(0, 1)", 4).due("reader(1, 1)", 3);
        x.due("reader(2, 1)", 2).due("page(0, 2)", 5).due("page(2, 2)", 7).due("copy(1, 2)", 3).due("copy(1, 0)", 4);
        x.due("page(3, 0)", 2).due("page(4, 0)", 0).due("reading(0, 1)", 2).due("reading(1, 1)", 0);
        x.due("request(0, 2, 5)", 0).due("request(2, 1, 6)", 1).due("grant(2)", 6).due("reading(2, 2)", 2);
    }

    /** 'A SET is a whole number, bit k for k': the first and the last bit of each. */
    private static void bitKForK() {
        String text = "line 1 0;".repeat(15) + "line 9 8;" + "reader silent 9;".repeat(7) + "reader copyist 9;error 100;";
        Run x = Run.of(text).does("read(0, 0)", "copy(7, 1)").due("line(0, 3)", 1).due("line(1, 3)", 128).due("whence(1, 17)", 128);
        x.asks("toKnow(1, 1)", 0).asks("toKnow(2, 128)", 0).asks("toKnow(32768, 128)", 1).asks("toKnow(32769, 1)", 1);
        for (int i = 0; i < 10; i++) {
            x.does("request(" + i % 8 + ", " + (i == 9 ? 15 : 2) + ", " + (i == 9 || i == 0 ? 10 + i : 0) + ")");
        }
        // The last request alone is worth more than its line, which is lost behind nine days; so is the first.
        x.asks("best(9, 0)", 513).asks("best(9, 2)", 32768).asks("best(9, 1)", 10 + 19 + 15);
        x.twin().due("grant(512)", 19).due("page(15, 2)", 9);
        x.twin().due("grant(1)", 10).due("page(2, 2)", 1);
        x.twin().due("grant(1023)", 29).due("told(4)", 12);
        Run.of("line 1 9;").asks("best(0, 2)", 1);
    }

    /** 'UNKNOWN (..; bits of such)'. */
    private static void unknownBits() {
        Run.fresh().asks("grant(0)", 0).refuses(Check.UNKNOWN, "grant(1)", "grant(-1)", "grant(-2147483648)", "grant(512)");
        Run.fresh().asks("toKnow(0, 0)", 0).refuses(Check.UNKNOWN, "toKnow(1, 0)", "toKnow(0, 1)", "toKnow(-2147483648, 0)", "toKnow(0, -1)");
        Run x = Run.of("line 1 0;line 1 0;reader silent 9;reader silent 9;reader silent 9;").does("request(0, 0, 5)", "request(1, 1, 6)");
        x.takes("grant(3)", "toKnow(3, 7)").refuses(Check.UNKNOWN, "grant(4)", "grant(5)", "grant(7)", "grant(-2147483647)");
        x.refuses(Check.UNKNOWN, "toKnow(4, 7)", "toKnow(7, 7)", "toKnow(3, 8)", "toKnow(3, 15)", "toKnow(0, 8)", "toKnow(4, 0)", "toKnow(-1, -1)");
        Run house = Run.house().takes("grant(1023)", "toKnow(65535, 255)").refuses(Check.UNKNOWN, "grant(1024)", "grant(2047)", "grant(-1)");
        house.refuses(Check.UNKNOWN, "toKnow(65536, 255)", "toKnow(131071, 255)", "toKnow(65535, 256)", "toKnow(65535, 511)", "toKnow(-1, 255)");
    }

    private static void refusesEach(Run x, int refusal, String call, int... numbers) {
        for (int n : numbers) {
            x.refuses(refusal, call.replace("#", "" + n));
        }
    }

    /** 'UNKNOWN (a LINE .. that there is not': in each call that names one. */
    private static void unknownLines() {
        String[] calls = {"line(#, 0)", "knows(0, #, 0)", "write(0, #)", "teach(2, 0, #)", "where(#)", "request(0, #, 0)", "claim(#, 0, 0)",
            "whence(#, 0)"};
        Run house = Run.house().does("forget()");
        for (String call : calls) {
            refusesEach(Run.fresh(), Check.UNKNOWN, call, 0, -1);
            refusesEach(house, Check.UNKNOWN, call, -1, 16, 2147483647, -2147483648);
        }
        house.takes("line(15, 0)", "knows(0, 15, 0)", "where(15)", "request(0, 15, 0)", "claim(15, 0, 0)", "whence(15, 0)");
    }

    /** 'UNKNOWN (a .. READER .. that there is not'. */
    private static void unknownReaders() {
        String[] calls = {"reader(#, 0)", "knows(#, 0, 0)", "read(#, 0)", "copy(#, 0)", "write(#, 0)", "teach(#, 0, 4)", "teach(2, #, 4)",
            "request(#, 0, 0)"};
        Run house = Run.house().does("forget()");
        for (String call : calls) {
            refusesEach(Run.of("line 1 0;"), Check.UNKNOWN, call, 0, -1);
            refusesEach(house, Check.UNKNOWN, call, -1, 8, 2147483647, -2147483648);
        }
        house.takes("reader(7, 0)", "knows(7, 0, 0)", "read(7, 0)", "teach(2, 7, 4)", "request(7, 0, 0)");
    }

    /** 'UNKNOWN (a .. PAGE .. that there is not'. */
    private static void unknownPages() {
        String[] calls = {"page(#, 0)", "read(0, #)", "copy(0, #)"};
        for (String call : calls) {
            refusesEach(Run.of("reader copyist 5;"), Check.UNKNOWN, call, 0, -1);
            refusesEach(Run.of("line 1 0;reader copyist 5;"), Check.UNKNOWN, call, -1, 1, 39, 2147483647, -2147483648);
            refusesEach(Run.house(), Check.UNKNOWN, call, -1, 40, 2147483647, -2147483648);
        }
        Run.house().takes("page(39, 0)", "read(0, 39)");
        Run.of("line 1 0;reader copyist 5;").takes("page(0, 0)", "read(0, 0)", "copy(0, 0)");
    }

    /** 'UNKNOWN (a .. IMAGE that there is not'. */
    private static void unknownImages() {
        refusesEach(Run.house(), Check.UNKNOWN, "keep(#)", -1, 2, 2147483647, -2147483648);
        refusesEach(Run.house(), Check.UNKNOWN, "goBack(#)", -1, 2, 2147483647, -2147483648);
        Run.house().takes("keep(0)", "keep(1)", "goBack(0)");
    }

    /** 'of several the first in this order': UNKNOWN, then OUTSIDE. */
    private static void unknownAheadOfOutside() {
        String[] calls = {"line(16, 6)", "line(-1, -1)", "reader(8, 3)", "reader(-1, -1)", "page(40, 4)", "page(-1, -1)", "knows(8, 0, 2)",
            "knows(0, 16, 2)", "knows(-1, -1, -1)", "request(8, 0, 100)", "request(0, 16, 100)", "request(-1, -1, -1)", "claim(16, 100, 0)",
            "claim(16, 0, 10000)", "claim(-1, -1, -1)", "whence(16, 100)", "whence(-1, -1)"};
        Run.house().refuses(Check.UNKNOWN, calls);
        // The same without what is unknown in them.
        Run.house().refuses(Check.OUTSIDE, "line(15, 6)", "reader(7, 3)", "page(39, 4)", "knows(7, 15, 2)", "claim(15, 100, 0)", "whence(15, 100)");
    }

    /** UNKNOWN, then NOT. */
    private static void unknownAheadOfNot() {
        Run x = Run.of("line 1 9;line 1 0;reader silent 9;reader copyist 9;reader teacher 9;").does(9, "where(0)").does("keep(0)");
        x.refuses(Check.NOT, "read(0, 0)", "copy(1, 0)", "copy(0, 1)", "write(0, 0)", "write(1, 0)", "teach(0, 1, 0)", "teach(2, 0, 0)");
        x.refuses(Check.UNKNOWN, "read(3, 0)", "read(-1, 0)", "copy(3, 0)", "copy(0, 2)", "copy(0, -1)", "write(0, 2)", "write(3, 0)");
        x.refuses(Check.UNKNOWN, "teach(0, 0, 0)", "teach(2, 2, 0)", "teach(0, 3, 0)", "teach(3, 0, 0)", "teach(0, 1, 2)", "teach(2, 0, -1)");
        x.refuses(Check.NOT, "where(0)", "goBack(1)").refuses(Check.UNKNOWN, "where(2)", "goBack(2)", "goBack(-1)");
    }

    /** UNKNOWN, then FULL. */
    private static void unknownAheadOfFull() {
        Run x = Run.house().refuses(Check.FULL, "copy(0, 0)", "write(0, 0)", "request(0, 0, 0)");
        x.refuses(Check.UNKNOWN, "copy(0, 40)", "copy(8, 0)", "copy(-1, 0)", "write(8, 0)", "write(0, 16)", "write(0, -1)");
        x.refuses(Check.UNKNOWN, "request(8, 0, 0)", "request(0, 16, 0)", "request(-1, 0, 0)", "request(8, 16, 100)");
    }

    /** OUTSIDE, then NOT. */
    private static void outsideAheadOfNot() {
        Run x = Run.of("reader silent 9;").refuses(Check.NOT, "run(1)", "span(1, 1, 0)").refuses(Check.OUTSIDE, "run(0)", "run(101)");
        x.refuses(Check.OUTSIDE, "span(0, 1, 0)", "span(101, 1, 0)", "span(1, 0, 0)", "span(1, 21, 0)", "span(1, 1, 2)", "span(1, 1, -1)");
    }

    /** OUTSIDE, then FULL. */
    private static void outsideAheadOfFull() {
        Run x = Run.house().refuses(Check.FULL, "feed(1, 32)", "feed(8, 0)", "request(0, 0, 0)", "request(0, 0, 99)", "note(0)", "note(16)");
        x.refuses(Check.OUTSIDE, "feed(0, 32)", "feed(9, 32)", "request(0, 0, -1)", "request(0, 0, 100)", "note(-1)", "note(17)");
    }

    /** NOT, then FULL. */
    private static void notAheadOfFull() {
        // Page 15 is gone; readers 1, 2, 3, 4 are no copyists; reader 5 is one who knows lines 3 and 4 alone.
        Run x = Run.house().due("page(15, 2)", 9).due("told(2)", 40).due("reader(5, 0)", 2).due("reader(5, 2)", 2);
        x.refuses(Check.FULL, "copy(0, 0)", "copy(5, 0)", "write(5, 4)").refuses(Check.NOT, "copy(0, 15)", "copy(5, 15)", "copy(4, 15)");
        x.refuses(Check.NOT, "copy(1, 0)", "copy(2, 0)", "copy(3, 0)", "copy(4, 0)", "write(5, 0)", "write(1, 0)", "write(2, 4)");
    }

    /** 'What is refused changes nothing': the next call, taken or refused, is answered as if it had not been. */
    private static void refusedAgain() {
        String[] refused = {"feed(9, 0)", "feed(1, 0)", "read(0, 15)", "copy(0, 15)", "copy(0, 0)", "write(0, 0)", "write(1, 0)", "teach(2, 2, 4)",
            "teach(6, 2, 4)", "dusk(201)", "run(101)", "where(6)", "request(0, 0, 0)", "grant(1024)", "best(201, 0)", "toKnow(65536, 1)",
            "life(10, 1, 1)", "right(41)", "claim(0, 0, 10000)", "whence(0, 100)", "span(101, 1, 0)", "note(3)", "note(17)", "seed(-1)",
            "keep(2)", "goBack(1)", "goBack(2)"};
        Run x = Run.house();
        for (String call : refused) {
            Check.due(call + " is refused", x.asked(call) <= Check.UNKNOWN ? 1 : 0, 1);
        }
        x.leavesAll(refused).leavesAll(refused);
    }
}
