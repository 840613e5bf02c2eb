/** Promises 1 to 10: the library and what is told of it. */
public final class LibraryTest {
    public static void main(String[] args) {
        newObject();
        feed();
        faults();
        faultsByPlace();
        library();
        libraryAnew();
        told();
        line();
        vote();
        reader();
        page();
        knows();
        reading();
        Check.finish("LibraryTest");
    }

    private static void newObject() {
        DimBooks x = new DimBooks();
        int[] want = {0, 0, 0, 0, 0, 0, 0, 0, 10, 0};
        for (int what = 0; what < want.length; what++) {
            Check.due("P1 new told(" + what + ")", x.told(what), want[what]);
        }
        Check.due("P1 new line(0, 0)", x.line(0, 0), Check.UNKNOWN);
        Check.due("P1 new reader(0, 0)", x.reader(0, 0), Check.UNKNOWN);
        Check.due("P1 new page(0, 0)", x.page(0, 0), Check.UNKNOWN);
        Check.due("P1 new fault()", x.fault(), Check.NONE);
        Check.due("P1 new seed(0)", x.seed(0), 0);
        Check.due("P1 new run(1)", x.run(1), Check.NOT);
        Check.due("P1 new goBack(0)", x.goBack(0), Check.NOT);
        Check.due("P1 new toKnow(0, 0)", x.toKnow(0, 0), 0);
        Check.due("P1 new judge()", x.judge(), Check.NONE);
        Check.due("P1 new best(0, 1)", x.best(0, 1), 0);
    }

    private static void feed() {
        DimBooks x = new DimBooks();
        Check.due("P2 feed(0)", x.feed(0, 1L), Check.OUTSIDE);
        Check.due("P2 feed(9)", x.feed(9, 1L), Check.OUTSIDE);
        Check.due("P2 feed(-1)", x.feed(-1, 1L), Check.OUTSIDE);
        Check.due("P2 nothing came", x.told(6), 0);
        // Bytes above the n lowest are not of these.
        Check.due("P2 feed(5, junk line)", x.feed(5, Check.pack("xyzline ")), 5);
        Check.due("P2 feed(4, 3 4;)", x.feed(4, Check.pack("3 4;")), 9);
        Check.due("P2 library()", x.library(), 1);
        Check.due("P2 V", x.line(0, 0), 3);
        Check.due("P2 S", x.page(0, 2), 4);

        DimBooks y = new DimBooks();
        for (int i = 1; i <= 49; i++) {
            Check.due("P2 feed 8", y.feed(8, Check.pack("        ")), 8 * i);
        }
        Check.due("P2 feed to 399", y.feed(7, Check.pack("       ")), 399);
        Check.due("P2 feed 2 over", y.feed(2, Check.pack("  ")), Check.FULL);
        Check.due("P2 still 399", y.told(6), 399);
        Check.due("P2 feed to 400", y.feed(1, 32L), 400);
        Check.due("P2 feed 1 over", y.feed(1, 32L), Check.FULL);
        Check.due("P2 feed 9 over", y.feed(9, 32L), Check.OUTSIDE);
        Check.due("P2 blanks alone are a library", y.library(), 0);
        Check.due("P2 empty then", y.told(6), 0);
    }

    private static void faultDue(String text, int number, int at) {
        DimBooks x = new DimBooks();
        Check.feed(x, text);
        Check.due("P3 library of [" + text + "]", x.library(), -10 - number);
        Check.due("P4 fault of [" + text + "]", x.fault(), at);
        Check.due("P3 text is empty behind [" + text + "]", x.told(6), 0);
    }

    private static void soundDue(String text, int lines) {
        DimBooks x = new DimBooks();
        Check.feed(x, text);
        Check.due("P3 library of [" + text + "]", x.library(), lines);
        Check.due("P4 fault of [" + text + "]", x.fault(), Check.NONE);
    }

    private static void faults() {
        soundDue("", 0);
        soundDue("line 99 9;", 1);
        soundDue("line1 2;line 001 000;", 2);
        soundDue("  line   1   2  ;  reader  aloud  1 ; error 0 ; ", 1);
        soundDue("reader silent99;", 0);
        soundDue("error100;line0 0;", 1);
        faultDue("lines 1 2;", 1, 0);
        faultDue("  lin 1 2;", 1, 2);
        faultDue("mine 1 2;", 1, 0);
        faultDue("linez 1 2;", 1, 0);
        faultDue("linea 1 2;", 1, 0);
        faultDue("line{ 1 2;", 1, 4);
        faultDue("line` 1 2;", 1, 4);
        faultDue("line :1 2;", 1, 5);
        faultDue("line /1 2;", 1, 5);
        faultDue("Line 1 2;", 1, 0);
        faultDue("linE 1 2;", 1, 0);
        faultDue("lineE 1 2;", 1, 4);
        faultDue(";", 1, 0);
        faultDue("line 1 2;;", 1, 9);
        faultDue("7", 1, 0);
        faultDue("7777", 1, 0);
        faultDue("line 1 2 3;", 1, 9);
        faultDue("line 12;", 1, 7);
        faultDue("line 1,2;", 1, 6);
        faultDue("line 1 x2;", 1, 7);
        faultDue("line 1x 2;", 1, 6);
        faultDue("line", 1, 4);
        faultDue("line  ", 1, 6);
        faultDue("line 1 2", 1, 8);
        faultDue("line 1 2 ", 1, 9);
        faultDue("line 1 2line 1 2;", 1, 8);
        faultDue("line 1\t2;", 1, 6);
        faultDue("line -1 2;", 1, 5);
        faultDue("reader", 1, 6);
        faultDue("reader line 5;", 1, 7);
        faultDue("reader sil", 1, 7);
        faultDue("reader silent", 1, 13);
        faultDue("reader silent aloud 4;", 1, 14);
        faultDue("readersilent 4;", 1, 0);
        faultDue("reader thief;", 1, 12);
        faultDue("silent 4;", 1, 0);
        faultDue("error;", 1, 5);
        faultDue("error 5", 1, 7);
        faultDue("line 1000 2;", 2, 5);
        faultDue("line 0000 2;", 2, 5);
        faultDue("line 1 0002;", 2, 7);
        faultDue("line 99999999999999 2;", 2, 5);
        faultDue("line 4294967297 2;", 2, 5);
        faultDue("line 100x", 2, 5);
        faultDue("line 1 10;", 2, 7);
        faultDue("reader aloud 00;", 2, 13);
        faultDue("reader aloud 100;", 2, 13);
        faultDue("line 100 0;", 2, 5);
        faultDue("error 101;", 2, 6);
        faultDue("error 0;error 0;", 3, 8);
        faultDue("error 0; error", 3, 9);
        faultDue("error 0 error", 1, 8);
        faultDue("error 0;errors", 1, 8);
        faultDue("error 1;error 9999", 3, 8);
        faultDue("" + (char) 233, 1, 0);
        faultDue("line 1 2;" + (char) 0, 1, 9);
    }

    private static String times(String clause, int n) {
        return clause.repeat(n);
    }

    private static void faultsByPlace() {
        soundDue(times("line 1 2;", 16), 16);
        faultDue(times("line 1 2;", 16) + "line", 3, 144);
        faultDue(times("line 1 2;", 16) + "  line 1000 2;", 3, 146);
        faultDue(times("line 1 2;", 16) + "lines", 1, 144);
        faultDue(times("line 1 2;", 15) + "line 1 2 line 1 2;", 1, 144);
        soundDue(times("reader thief 3;", 8), 0);
        faultDue(times("reader thief 3;", 8) + "reader", 3, 120);
        faultDue(times("reader thief 3;", 7) + "reader thief 3 reader thief 3;", 1, 120);
        faultDue("line 100 2;error 1;error 1;", 2, 5);
    }

    private static void library() {
        DimBooks x = Check.open("line 5 0;line 6 3;reader copyist 7;reader teacher 9;error 0;");
        x.seed(77);
        x.read(0, 0);
        x.copy(0, 1);
        x.dusk(3);
        x.where(0);
        x.request(0, 0, 4);
        x.note(2);
        x.keep(0);
        int seed = x.seed(0);
        x.seed(seed);
        String before = Check.sight(x);
        Check.feed(x, "line 1 1;line 2 2;line 3 3;bad");
        Check.due("P3 a faulty text", x.library(), -11);
        Check.due("P4 its byte", x.fault(), 27);
        Check.same("P3 a faulty text", withoutFault(Check.sight(x)), withoutFault(before));
        Check.due("P3 the image stands", x.goBack(0), 1);
        Check.feed(x, "line 1 1;");
        Check.due("P3 a sound text", x.library(), 1);
        Check.due("P4 none now", x.fault(), Check.NONE);
        int[] want = {1, 0, 1, 0, 0, 0, 0, 0, 10, 1};
        for (int what = 0; what < want.length; what++) {
            Check.due("P3 then told(" + what + ")", x.told(what), want[what]);
        }
        Check.due("P3 catalogue is new", x.line(0, 5), 0);
        Check.due("P3 images are gone", x.goBack(0), Check.NOT);
        Check.due("P3 the seed is not told of, it stays", x.seed(0), seed);
        Check.feed(x, "line 5 0;line 6 3;reader copyist 7;reader teacher 9;");
        Check.due("P3 again", x.library(), 2);
        Check.due("P3 nobody knows", x.knows(0, 0, 0), Check.NONE);
        Check.due("P3 E untold", x.told(8), 10);
    }

    /** Nothing of the pages, hearts and looks of one library is left in the next. */
    private static void libraryAnew() {
        DimBooks x = Check.open("line 1 0;reader copyist 9;reader aloud 9;error 100;");
        x.copy(0, 0);
        x.copy(0, 1);
        x.read(1, 2);
        x.read(1, 1);
        x.where(0);
        Check.feed(x, "line 1 1;line 2 2;line 3 9;reader silent 5;reader copyist 9;error 0;");
        Check.due("P3 a second library", x.library(), 3);
        for (int p = 0; p < 3; p++) {
            Check.due("P3 its line", x.page(p, 0), p);
            Check.due("P3 its variant", x.page(p, 1), 0);
            Check.due("P3 its shade", x.page(p, 2), p == 2 ? 9 : p + 1);
            Check.due("P3 never read", x.page(p, 3), 0);
            Check.due("P3 nobody knows it", x.line(p, 3), 0);
            Check.due("P3 its entry", x.line(p, 5), 0);
        }
        Check.due("P3 kept", x.told(9), 2);
        Check.due("P3 nobody brought an error in", x.whence(1, 2), 0);

        DimBooks y = Check.open("line 1 0;reader copyist 9;reader thief 9;error 0;");
        y.copy(0, 0);
        y.read(1, 1);
        Check.feed(y, "line 1 0;reader copyist 9;reader thief 9;error 0;");
        y.library();
        Check.due("P3 a copy in the second library", y.copy(0, 0), 1);
        Check.due("P12 its shade", y.page(1, 2), 0);
    }

    /** The byte of the latest fault is the one thing that a faulty text may change. */
    private static String withoutFault(String sight) {
        String[] parts = sight.split(" ");
        parts[10] = "";
        return String.join(" ", parts);
    }

    private static void told() {
        DimBooks x = Check.open("line 5 0;line 6 9;line 7 8;reader copyist 7;reader thief 9;error 33;");
        x.read(0, 2);
        x.copy(0, 0);
        x.request(0, 1, 3);
        x.request(1, 1, 3);
        x.note(3);
        x.dusk(6);
        x.feed(3, 0L);
        int[] want = {3, 2, 4, 2, 2, 1, 3, 6, 33, 2};
        for (int what = 0; what < want.length; what++) {
            Check.due("P5 told(" + what + ")", x.told(what), want[what]);
        }
        x.dusk(1);
        Check.due("P5 one line less is kept", x.told(9), 1);
        Check.due("P5 told(10)", x.told(10), Check.OUTSIDE);
        Check.due("P5 told(-1)", x.told(-1), Check.OUTSIDE);
    }

    private static void line() {
        DimBooks x = Check.open("line 99 8;line 0 0;reader silent 2;reader copyist 3;error 0;");
        Check.due("P6 V", x.line(0, 0), 99);
        Check.due("P6 kept", x.line(0, 1), 1);
        Check.due("P6 pages", x.line(0, 2), 1);
        x.read(0, 0);
        Check.due("P6 kept in a heart", x.line(0, 1), 1);
        Check.due("P6 no page", x.line(0, 2), 0);
        Check.due("P6 who knows", x.line(0, 3), 1);
        x.copy(1, 1);
        Check.due("P6 pages with the copy", x.line(1, 2), 2);
        Check.due("P6 who knows", x.line(1, 3), 2);
        x.dusk(1);
        Check.due("P6 still in a heart", x.line(0, 1), 1);
        x.dusk(1);
        Check.due("P6 forgotten", x.line(0, 1), 0);
        Check.due("P6 nobody", x.line(0, 3), 0);
        Check.due("P6 no vote", x.line(0, 4), Check.NONE);
        x.where(0);
        x.where(0);
        Check.due("P6 entry", x.line(0, 5), 2);
        Check.due("P6 other entry", x.line(1, 5), 0);
        Check.due("P6 line(2, 0)", x.line(2, 0), Check.UNKNOWN);
        Check.due("P6 line(-1, 0)", x.line(-1, 0), Check.UNKNOWN);
        Check.due("P6 line(2, 9)", x.line(2, 9), Check.UNKNOWN);
        Check.due("P6 line(0, 6)", x.line(0, 6), Check.OUTSIDE);
        Check.due("P6 line(0, -1)", x.line(0, -1), Check.OUTSIDE);

        DimBooks y = Check.open("line 1 8;reader copyist 5;reader thief 5;error 100;");
        Check.due("P6 a copy with an error", y.copy(0, 0), 1);
        Check.due("P6 the copyist still knows it truly", y.line(0, 1), 1);
        y.read(0, 1);
        Check.due("P6 a wrong variant keeps nothing", y.line(0, 1), 0);
        Check.due("P6 it has a page all the same", y.line(0, 2), 1);
    }

    private static void vote() {
        DimBooks x = Check.open("line 1 0;reader copyist 9;reader silent 9;reader silent 4;error 100;");
        Check.due("P6 vote of one page", x.line(0, 4), 0);
        x.copy(0, 0);
        Check.due("P6 page and heart against a copy", x.line(0, 4), 0);
        x.read(1, 1);
        Check.due("P6 two against two", x.line(0, 4), Check.NONE);
        x.read(2, 1);
        Check.due("P6 three of five", x.line(0, 4), 2);
        x.dusk(4);
        Check.due("P6 a forgetful heart has no vote", x.line(0, 4), Check.NONE);
        for (int i = 0; i < 8; i++) {
            x.read(0, 0);
        }
        Check.due("P6 a gone page has no vote", x.line(0, 4), 2);
    }

    private static void reader() {
        DimBooks x = Check.open("reader teacher 1;reader thief 2;reader copyist 3;reader aloud 4;reader silent 99;line 1 0;line 2 0;");
        for (int r = 0; r < 5; r++) {
            Check.due("P7 kind", x.reader(r, 0), 4 - r);
            Check.due("P7 F", x.reader(r, 1), r == 4 ? 99 : r + 1);
            Check.due("P7 knows none", x.reader(r, 2), 0);
        }
        x.read(3, 0);
        x.read(4, 1);
        Check.due("P7 heard one", x.reader(0, 2), 1);
        Check.due("P7 read two", x.reader(4, 2), 2);
        x.dusk(1);
        Check.due("P7 forgot", x.reader(0, 2), 0);
        Check.due("P7 reader(5, 0)", x.reader(5, 0), Check.UNKNOWN);
        Check.due("P7 reader(-1, 7)", x.reader(-1, 7), Check.UNKNOWN);
        Check.due("P7 reader(0, 3)", x.reader(0, 3), Check.OUTSIDE);
        Check.due("P7 reader(0, -1)", x.reader(0, -1), Check.OUTSIDE);
    }

    private static void page() {
        DimBooks x = Check.open("line 1 4;line 2 5;reader copyist 9;reader thief 9;error 100;");
        x.copy(0, 1);
        Check.due("P8 line of the copy", x.page(2, 0), 1);
        Check.due("P8 its variant", x.page(2, 1), 3);
        Check.due("P8 its shade", x.page(2, 2), 0);
        Check.due("P8 never read", x.page(2, 3), 0);
        Check.due("P8 the copied one is read", x.page(1, 3), 1);
        Check.due("P8 and pales", x.page(1, 2), 6);
        x.read(1, 1);
        Check.due("P8 a thief reads once", x.page(1, 3), 2);
        Check.due("P8 and takes it along", x.page(1, 2), 9);
        Check.due("P8 page(3, 0)", x.page(3, 0), Check.UNKNOWN);
        Check.due("P8 page(-1, 4)", x.page(-1, 4), Check.UNKNOWN);
        Check.due("P8 page(0, 4)", x.page(0, 4), Check.OUTSIDE);
        Check.due("P8 page(0, -1)", x.page(0, -1), Check.OUTSIDE);
    }

    private static void knows() {
        DimBooks x = Check.open("line 1 0;line 2 0;reader silent 3;reader copyist 9;error 100;");
        Check.due("P9 nothing", x.knows(0, 0, 0), Check.NONE);
        Check.due("P9 no day", x.knows(0, 0, 1), Check.NONE);
        x.dusk(5);
        x.read(0, 0);
        Check.due("P9 variant", x.knows(0, 0, 0), 0);
        Check.due("P9 day", x.knows(0, 0, 1), 5);
        x.copy(1, 0);
        Check.due("P9 the copyist knows what stood there", x.knows(1, 0, 0), 0);
        x.dusk(2);
        x.read(0, 2);
        Check.due("P9 the latest", x.knows(0, 0, 0), 3);
        Check.due("P9 from then on", x.knows(0, 0, 1), 7);
        x.dusk(2);
        Check.due("P9 two days", x.knows(0, 0, 0), 3);
        x.dusk(1);
        Check.due("P9 three days", x.knows(0, 0, 0), Check.NONE);
        Check.due("P9 three days, day", x.knows(0, 0, 1), Check.NONE);
        Check.due("P9 other line", x.knows(1, 1, 0), Check.NONE);
        Check.due("P9 knows(2, 0, 0)", x.knows(2, 0, 0), Check.UNKNOWN);
        Check.due("P9 knows(0, 2, 5)", x.knows(0, 2, 5), Check.UNKNOWN);
        Check.due("P9 knows(-1, 0, 0)", x.knows(-1, 0, 0), Check.UNKNOWN);
        Check.due("P9 knows(0, -1, 0)", x.knows(0, -1, 0), Check.UNKNOWN);
        Check.due("P9 knows(0, 0, 2)", x.knows(0, 0, 2), Check.OUTSIDE);
        Check.due("P9 knows(0, 0, -1)", x.knows(0, 0, -1), Check.OUTSIDE);
    }

    private static void reading() {
        DimBooks x = Check.open("line 1 0;line 2 0;reader silent 3;reader copyist 9;reader teacher 9;error 0;");
        Check.due("P10 none yet", x.reading(0, 0), Check.NONE);
        x.dusk(4);
        x.read(0, 1);
        x.dusk(2);
        x.copy(1, 0);
        x.write(1, 0);
        x.read(2, 0);
        x.teach(2, 0, 0);
        x.request(0, 1, 1);
        x.grant(1);
        int[][] want = {{4, 1, 0}, {6, 0, 1}, {6, 0, 2}, {6, 1, 0}};
        for (int i = 0; i < want.length; i++) {
            for (int what = 0; what < 3; what++) {
                Check.due("P10 reading(" + i + ", " + what + ")", x.reading(i, what), want[i][what]);
            }
        }
        Check.due("P10 writing and teaching are none", x.told(4), 4);
        Check.due("P10 reading(4, 0)", x.reading(4, 0), Check.NONE);
        Check.due("P10 reading(-1, 0)", x.reading(-1, 0), Check.NONE);
        Check.due("P10 reading(0, 3)", x.reading(0, 3), Check.OUTSIDE);
        Check.due("P10 reading(0, -1)", x.reading(0, -1), Check.OUTSIDE);
        Check.due("P10 reading(99, 3)", x.reading(99, 3), Check.OUTSIDE);

        DimBooks y = Check.open("line 1 0;reader copyist 9;reader silent 9;error 0;");
        // Each page is copied once and then read off: 9 readings a page.
        int last = 0;
        for (int p = 0; y.told(4) < 299; p++) {
            last = y.copy(0, p);
            for (int i = 0; i < 8 && y.told(4) < 299; i++) {
                y.read(1, p);
            }
        }
        int seen = y.page(last, 3);
        y.dusk(1);
        y.read(1, last);
        Check.due("P10 the 300th", y.told(4), 300);
        Check.due("P10 its day", y.reading(299, 0), 1);
        int shade = y.page(last, 2);
        Check.due("P10 the 301st is read", y.read(0, last), shade + 1);
        Check.due("P10 but not written down", y.told(4), 300);
        Check.due("P10 the 300th is the silent one's", y.reading(299, 2), 1);
        Check.due("P10 reading(300, 0)", y.reading(300, 0), Check.NONE);
        Check.due("P8 how often, by readings", y.page(last, 3), seen + 1);
    }
}
