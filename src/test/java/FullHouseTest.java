/** All promises at their limits: 16 lines, 8 readers, 40 pages, 300 readings, 10 requests, 60 entries, 400 bytes. */
public final class FullHouseTest {
    private static final String READERS = "reader copyist 99;reader aloud 9;reader teacher 7;reader thief 5;reader silent 1;"
        + "reader copyist 2;reader teacher 3;reader silent 99;";

    public static void main(String[] args) {
        texts();
        house();
        Check.finish("FullHouseTest");
    }

    /** Texts of 400 bytes whose last byte is of a word, a number, a blank, an end. */
    private static void texts() {
        textDue("lin", 1, 397);
        textDue("reader", 1, 400);
        textDue("reader sil", 1, 397);
        textDue("reader silent", 1, 400);
        textDue("line 7", 1, 400);
        textDue("line 7 100", 2, 397);
        textDue("line 7 ", 1, 400);
        textDue("error 7", 1, 400);
        textDue("error 7;", 0, Check.NONE);
    }

    private static void textDue(String end, int number, int at) {
        DimBooks x = new DimBooks();
        Check.feed(x, " ".repeat(400 - end.length()) + end);
        Check.due("P2 400 bytes with " + end, x.told(6), 400);
        Check.due("P3 " + end, x.library(), number == 0 ? 0 : -10 - number);
        Check.due("P4 " + end, x.fault(), at);
    }

    private static DimBooks full() {
        DimBooks x = Check.open("line 99 0;".repeat(16) + READERS + "error 100;");
        for (int p = 16; p < 40; p++) {
            x.copy(0, p - 16);
        }
        return x;
    }

    private static void house() {
        DimBooks x = full();
        Check.due("P5 pages", x.told(2), 40);
        Check.due("P5 kept", x.told(9), 16);
        x.read(1, 15);
        Check.due("P6 all know", x.line(15, 3), 255);
        Check.due("P6 the vote on line 15", x.line(15, 4), 0);
        Check.due("P7 the copyist knows all", x.reader(0, 2), 16);
        Check.due("P7 the last knows one", x.reader(7, 2), 1);
        Check.due("P9 the last reader, the last line", x.knows(7, 15, 0), 0);
        Check.due("P14 the last line", x.teach(6, 7, 15), 0);
        Check.due("P17 the last line", x.where(15), 15);
        Check.due("P22 all by all", x.toKnow(65535, 255), 15);
        Check.due("P26 the first copyist", x.whence(7, 40), 1);
        for (int i = 0; i < 10; i++) {
            Check.due("P18 request", x.request(i % 8, 15, 99), i);
        }
        // Line 15 has page 15 of shade 2, which is true, and page 31 of shade 0, which is not; the thief, the fourth,
        // takes page 31 along, and the last of ten is the last that page 15 lasts for.
        Check.due("P21 nine of ten", x.best(200, 0), 511);
        Check.due("P21 their sum", x.best(200, 1), 9 * 99 + 16 * 99);
        Check.due("P21 nothing lost", x.best(200, 2), 0);
        Check.due("P21 all ten, and kept by heart", x.best(98, 0), 1023);
        Check.due("P21 their sum", x.best(98, 1), 10 * 99 + 16 * 99);
        for (int i = 0; i < 60; i++) {
            x.note(16);
        }
        Check.due("P30 all entries", x.judge(), Check.NONE);
        x.keep(0);
        Check.due("P20 all", x.grant(1023), 10 * 99);
        Check.due("P20 both pages are gone", x.line(15, 2), 0);
        x.goBack(0);
        Check.due("P16 a hundred days", x.run(100), 40);
        Check.due("P10 no more than 300 readings", x.told(4) <= 300 ? 1 : 0, 1);
        int kept = x.told(9);
        x.goBack(0);
        Check.due("P27 the same in a span", x.span(100, 1, 0), kept);
        Check.due("P27 of twenty", x.span(100, 20, 1) >= kept ? 1 : 0, 1);
        Check.due("P33 as it was", x.told(9), 16);
    }
}
