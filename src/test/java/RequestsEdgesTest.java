/** The edges under '3 REQUESTS' of requests and of TO KNOW: a method for each sentence. */
public final class RequestsEdgesTest {
    private static final String FOUR_SILENT = "reader silent 9;reader silent 9;reader silent 9;reader silent 9;";

    public static void main(String[] args) {
        tenRequests();
        worthOfARequest();
        grantedInOrder();
        leastShade();
        nonePage();
        theyStay();
        bestOfNone();
        bestOfTen();
        bestSum();
        bestBehindDusks();
        bestIsTheFewest();
        bestFewestAheadOfLeast();
        bestIsTheLeast();
        knownByAll();
        readingsThatPagesAllow();
        oneForAThief();
        oneReadingAloud();
        teacherWhoKnows();
        teacherWhoDoesNot();
        teacherOfTheSet();
        leastOfTheWays();
        variantNoughtToday();
        nobodyCopies();
        lineByLine();
        Check.finish("RequestsEdgesTest");
    }

    /** 'REQUESTS (10 at most)'; request: 'its number .. FULL (10)'. */
    private static void tenRequests() {
        Run x = Run.of("line 1 0;reader silent 9;").due("told(3)", 0).due("forget()", 0);
        for (int i = 0; i < 10; i++) {
            x.due("request(0, 0, " + i + ")", i);
        }
        x.due("told(3)", 10).refuses(Check.FULL, "request(0, 0, 0)", "request(0, 0, 99)").due("forget()", 10).due("told(3)", 0);
        x.refuses(Check.UNKNOWN, "grant(1)").due("request(0, 0, 7)", 0).due("grant(1)", 7);
    }

    /** 'what it is worth W (0 .. 99)'. */
    private static void worthOfARequest() {
        Run x = Run.of("line 1 0;reader silent 9;");
        x.refuses(Check.OUTSIDE, "request(0, 0, -1)", "request(0, 0, 100)", "request(0, 0, 2147483647)", "request(0, 0, -2147483648)");
        x.due("request(0, 0, 0)", 0).due("request(0, 0, 99)", 1).due("grant(1)", 0).due("page(0, 2)", 1).due("grant(2)", 99);
    }

    /** 'GRANTED, in order'. */
    private static void grantedInOrder() {
        Run x = Run.of("line 1 8;reader silent 9;reader thief 9;").does("request(1, 0, 4)", "request(0, 0, 5)");
        x.twin().due("grant(3)", 4).due("line(0, 3)", 2);
        x.twin().due("grant(2)", 5).due("line(0, 3)", 1);
        Run y = Run.of("line 1 7;reader silent 9;reader thief 9;").does("request(0, 0, 4)", "request(1, 0, 5)", "request(0, 0, 6)");
        y.twin().due("grant(7)", 9).due("reading(0, 2)", 0).due("reading(1, 2)", 1).due("told(4)", 2);
        y.twin().due("grant(6)", 5).due("told(4)", 1);
        y.twin().due("grant(5)", 10).due("page(0, 2)", 9);
    }

    /** 'the READER reads the PAGE of the LINE that is not gone with the least SHADE (of like ones the least'. */
    private static void leastShade() {
        Run x = Run.of("line 1 7;line 1 0;reader copyist 9;reader silent 9;reader thief 9;error 0;").does("copy(0, 0)", "write(0, 0)");
        // Of line 0 page 0 has shade 8, pages 2 and 3 have 0; page 1 is of another line.
        x.does("request(1, 0, 1)", "request(2, 0, 2)").due("grant(1)", 1).due("reading(1, 1)", 2).due("grant(1)", 1).due("reading(2, 1)", 3);
        x.due("grant(1)", 1).due("reading(3, 1)", 2).due("page(2, 2)", 2).due("page(3, 2)", 1).due("grant(2)", 2).due("page(3, 2)", 9);
        x.due("grant(2)", 2).due("page(2, 2)", 9).due("page(0, 2)", 8).due("grant(3)", 1).due("page(0, 2)", 9).due("page(1, 2)", 0);
    }

    /** 'none: nothing is done and W is not had)'. */
    private static void nonePage() {
        Run x = Run.of("line 1 9;line 1 8;reader silent 9;reader aloud 9;reader thief 9;");
        x.does("request(0, 0, 50)", "request(1, 0, 60)", "request(2, 0, 70)", "request(0, 1, 3)");
        x.asks("grant(1)", 0).asks("grant(7)", 0).due("grant(15)", 3).due("told(4)", 1).asks("grant(15)", 0).asks("grant(0)", 0);
    }

    /** grant: 'All REQUESTS of a SET are GRANTED now (they stay)'. */
    private static void theyStay() {
        Run x = Run.of("line 1 0;reader silent 9;").does("request(0, 0, 5)", "request(0, 0, 6)").due("grant(3)", 11).due("told(3)", 2);
        x.due("grant(3)", 11).due("page(0, 2)", 4).due("request(0, 0, 7)", 2).due("grant(7)", 18);
    }

    /** THE BEST without REQUESTS, without LINES. */
    private static void bestOfNone() {
        Run.fresh().asks("best(0, 0)", 0).asks("best(200, 1)", 0).asks("best(0, 2)", 0);
        Run x = Run.of("line 99 0;line 50 9;line 7 8;").asks("best(0, 0)", 0).asks("best(0, 1)", 106).asks("best(0, 2)", 2);
        x.asks("best(200, 1)", 106);
        Run all = Run.of("line 1 9;".repeat(16)).asks("best(0, 1)", 0).asks("best(0, 2)", 65535);
        all.refuses(Check.OUTSIDE, "best(0, 3)");
        // None of them can be had.
        Run.of("line 9 9;reader silent 9;").does("request(0, 0, 99)").asks("best(0, 0)", 0).asks("best(0, 1)", 0).asks("best(0, 2)", 1);
    }

    /** All ten REQUESTS, and the last of them alone. */
    private static void bestOfTen() {
        Run x = Run.of("line 99 0;line 99 0;reader silent 9;");
        for (int i = 0; i < 10; i++) {
            x.does("request(0, " + i % 2 + ", 99)");
        }
        x.asks("best(200, 0)", 1023).asks("best(200, 1)", 1188).asks("best(200, 2)", 0);
        Run y = Run.of("line 99 8;reader silent 9;");
        for (int i = 0; i < 10; i++) {
            y.does("request(0, 0, " + (i == 9 ? 99 : 98) + ")");
        }
        y.asks("best(0, 0)", 512).asks("best(0, 1)", 198).asks("best(9, 0)", 0).asks("best(9, 1)", 99);
    }

    /** 'give the greatest sum of W that is had and V of all LINES that are KEPT'. */
    private static void bestSum() {
        // One reading is left: granted, the line is lost behind a day.
        Run x = Run.of("line 10 8;reader silent 1;").does("request(0, 0, 9)").asks("best(1, 0)", 0).asks("best(1, 1)", 10).asks("best(1, 2)", 0);
        x.asks("best(0, 0)", 1).asks("best(0, 1)", 19);
        Run y = Run.of("line 10 8;reader silent 1;").does("request(0, 0, 10)").asks("best(1, 0)", 0).asks("best(1, 2)", 0);
        y.asks("best(1, 1)", 10);
        Run z = Run.of("line 10 8;reader silent 1;").does("request(0, 0, 11)").asks("best(1, 0)", 1).asks("best(1, 2)", 1);
        z.asks("best(1, 1)", 11);
        // One that is not had adds nothing, whatever it is worth.
        Run w = Run.of("line 0 8;reader silent 9;reader thief 9;").does("request(1, 0, 5)", "request(0, 0, 99)").asks("best(0, 0)", 2);
        w.asks("best(0, 1)", 99);
    }

    /** 'when h DUSKS have gone by'; best: 'THE BEST (h 0 .. 200)'. */
    private static void bestBehindDusks() {
        Run x = Run.of("line 10 8;reader silent 99;").does("request(0, 0, 5)");
        x.asks("best(0, 0)", 1).asks("best(98, 0)", 1).asks("best(98, 1)", 15).asks("best(99, 0)", 0).asks("best(99, 1)", 10);
        x.asks("best(200, 0)", 0).refuses(Check.OUTSIDE, "best(-1, 0)", "best(201, 0)", "best(2147483647, 0)", "best(-2147483648, 0)");
        // What is known already is forgotten on the way, too.
        Run y = Run.of("line 10 8;line 20 8;reader silent 3;").does("read(0, 0)", "dusk(1)", "request(0, 1, 0)");
        y.asks("best(1, 2)", 0).asks("best(2, 2)", 1).asks("best(2, 1)", 20);
    }

    /** 'of like ones the one with the fewest'. */
    private static void bestIsTheFewest() {
        Run.of("line 5 0;reader silent 9;").does("request(0, 0, 0)", "request(0, 0, 0)").asks("best(0, 0)", 0).asks("best(0, 1)", 5);
        Run.of("line 5 0;reader silent 9;").does("request(0, 0, 0)", "request(0, 0, 1)").asks("best(0, 0)", 2);
        Run x = Run.of("line 5 8;reader silent 9;").does("request(0, 0, 4)", "request(0, 0, 0)", "request(0, 0, 9)");
        x.asks("best(0, 0)", 4).asks("best(0, 1)", 14);
        // A request of worth 0 is granted where it keeps a line by heart.
        Run y = Run.of("line 9 0;reader copyist 9;reader thief 1;error 100;").does("request(0, 0, 0)", "request(1, 0, 7)");
        y.asks("best(1, 0)", 3).asks("best(1, 1)", 16);
    }

    /** The fewest go ahead of the least: {2}, which is 4, is taken, and not {0, 1}, which is 3. */
    private static void bestFewestAheadOfLeast() {
        Run x = Run.of("line 40 7;reader silent 99;reader silent 99;reader aloud 99;reader copyist 1;error 100;").does("copy(3, 0)");
        x.does(8, "read(3, 1)").does("dusk(1)").due("page(0, 2)", 8).due("page(1, 2)", 8).due("line(0, 3)", 0);
        // The first to read has the true page, the second the page with the error; read aloud, all know the error.
        x.does("request(0, 0, 2)", "request(1, 0, 3)", "request(2, 0, 5)");
        x.asks("best(50, 0)", 4).asks("best(50, 1)", 45).asks("best(50, 2)", 0);
        x.twin().due("grant(3)", 5).due("line(0, 1)", 1);
        x.twin().due("grant(5)", 7).due("line(0, 1)", 0);
    }

    /** 'then the least'. */
    private static void bestIsTheLeast() {
        Run x = Run.of("line 5 8;reader silent 9;");
        for (int i = 0; i < 10; i++) {
            x.does("request(0, 0, 7)");
        }
        x.asks("best(0, 0)", 1).asks("best(0, 1)", 12);
        Run y = Run.of("line 5 7;reader silent 9;").does("request(0, 0, 6)", "request(0, 0, 7)", "request(0, 0, 7)", "request(0, 0, 7)");
        y.asks("best(0, 0)", 6).asks("best(0, 1)", 19);
        // Of two lines: the least of each.
        Run z = Run.of("line 5 8;line 5 8;reader silent 9;").does("request(0, 1, 3)", "request(0, 0, 3)", "request(0, 0, 3)", "request(0, 1, 3)");
        z.asks("best(0, 0)", 3);
    }

    /** TO KNOW: '0, if all KNOW it'. */
    private static void knownByAll() {
        Run.fresh().asks("toKnow(0, 0)", 0);
        Run x = Run.of("line 1 8;line 1 9;" + FOUR_SILENT).asks("toKnow(0, 0)", 0).asks("toKnow(3, 0)", 0).asks("toKnow(0, 15)", 0);
        x.does("read(0, 0)").asks("toKnow(1, 1)", 0).asks("toKnow(1, 3)", Check.NONE).asks("toKnow(2, 1)", Check.NONE);
        x.does("dusk(8)").asks("toKnow(1, 1)", 0).does("dusk(1)").asks("toKnow(1, 1)", Check.NONE);
        // Though nobody is of the set, a line without pages is no hindrance.
        x.asks("toKnow(3, 0)", 0);
        Run.of("line 1 0;reader aloud 9;" + FOUR_SILENT).does("read(0, 0)").asks("toKnow(1, 31)", 0);
    }

    /** 'as many readings as there are who do not, if its PAGES of VARIANT 0 allow so many (9 less SHADE each'. */
    private static void readingsThatPagesAllow() {
        Run x = Run.of("line 1 6;line 1 5;" + FOUR_SILENT).asks("toKnow(1, 7)", 3).asks("toKnow(1, 15)", Check.NONE).asks("toKnow(2, 15)", 4);
        x.does("read(3, 0)").asks("toKnow(1, 3)", 2).asks("toKnow(1, 11)", 2).asks("toKnow(1, 7)", Check.NONE);
        // Two pages: 1 and 2 readings left, then one more is too many.
        Run y = Run.of("line 1 7;" + FOUR_SILENT + "reader copyist 1;error 0;").does("copy(4, 0)").does(7, "read(4, 1)").does("dusk(1)");
        y.due("page(0, 2)", 8).due("page(1, 2)", 7).asks("toKnow(1, 7)", 3).asks("toKnow(1, 15)", Check.NONE);
        Run eight = Run.of("line 1 0;line 1 1;line 1 2;" + FOUR_SILENT.repeat(2));
        eight.asks("toKnow(1, 255)", 8).asks("toKnow(2, 255)", 8).asks("toKnow(4, 255)", Check.NONE).asks("toKnow(4, 254)", 7);
    }

    /** 'one for a thief, as the last of it)'. */
    private static void oneForAThief() {
        String readers = "reader thief 9;reader thief 9;reader silent 9;reader silent 9;reader copyist 1;error 0;";
        Run x = Run.of("line 1 8;line 1 7;line 1 6;" + readers);
        x.asks("toKnow(1, 1)", 1).asks("toKnow(1, 3)", Check.NONE).asks("toKnow(1, 5)", Check.NONE).asks("toKnow(2, 5)", 2);
        x.asks("toKnow(2, 3)", Check.NONE).asks("toKnow(2, 13)", Check.NONE).asks("toKnow(4, 13)", 3).asks("toKnow(4, 15)", Check.NONE);
        // Two pages of line 1, of shades 8 and 0: a thief ends each.
        Run y = x.twin().does("copy(4, 1)", "dusk(1)").asks("toKnow(2, 3)", 2).asks("toKnow(2, 15)", 4);
        y.does(8, "read(4, 3)").does("dusk(1)").asks("toKnow(2, 3)", 2).asks("toKnow(2, 7)", Check.NONE).asks("toKnow(2, 13)", Check.NONE);
        y.asks("toKnow(2, 12)", 2);
        // A thief who knows it needs no page.
        y.does("read(0, 3)").asks("toKnow(2, 3)", 1).asks("toKnow(2, 1)", 0).asks("toKnow(2, 5)", 1);
    }

    /** 'one reading aloud by a READER of the kind, if there is a PAGE'; '(.. a reading aloud counts once for all'. */
    private static void oneReadingAloud() {
        Run x = Run.of("line 1 8;line 1 9;reader aloud 9;" + FOUR_SILENT).asks("toKnow(1, 31)", 1).asks("toKnow(1, 30)", 1);
        x.asks("toKnow(1, 2)", 1).asks("toKnow(1, 1)", 1).asks("toKnow(2, 1)", Check.NONE).asks("toKnow(2, 30)", Check.NONE);
        x.does("read(1, 0)").asks("toKnow(1, 2)", 0).asks("toKnow(1, 6)", Check.NONE);
        // A page with an error is none.
        Run y = Run.of("line 1 8;reader aloud 9;reader copyist 9;error 100;").does("copy(1, 0)").asks("toKnow(1, 1)", Check.NONE);
        y.asks("toKnow(1, 2)", 0);
    }

    /** 'those who do not taught by a teacher who KNOWS it'; 'teachers teach only what they KNOW by then'. */
    private static void teacherWhoKnows() {
        Run x = Run.of("line 1 8;reader teacher 9;" + FOUR_SILENT).does("read(0, 0)").asks("toKnow(1, 31)", 4).asks("toKnow(1, 30)", 4);
        x.asks("toKnow(1, 2)", 1).asks("toKnow(1, 1)", 0).does("teach(0, 1, 0)").asks("toKnow(1, 31)", 3).does("dusk(8)");
        x.asks("toKnow(1, 16)", 1).does("dusk(1)").asks("toKnow(1, 16)", Check.NONE).asks("toKnow(1, 1)", Check.NONE);
        // One who knows it, but does not teach, is of no help; nor is a teacher who knows an error.
        Run.of("line 1 8;" + FOUR_SILENT).does("read(0, 0)").asks("toKnow(1, 2)", Check.NONE);
        Run y = Run.of("line 1 8;reader teacher 9;reader copyist 9;reader silent 9;error 100;").does("copy(1, 0)", "read(0, 1)");
        y.asks("toKnow(1, 4)", Check.NONE).asks("toKnow(1, 1)", Check.NONE);
    }

    /** 'that, and one reading by the teacher more, if he does not, and there is a PAGE'. */
    private static void teacherWhoDoesNot() {
        Run x = Run.of("line 1 8;line 1 9;reader teacher 9;" + FOUR_SILENT).asks("toKnow(1, 30)", 5).asks("toKnow(1, 6)", 3);
        // One alone reads it himself: the pages allow so many.
        x.asks("toKnow(1, 2)", 1).asks("toKnow(2, 2)", Check.NONE).asks("toKnow(2, 1)", Check.NONE);
        // A page that is left holds an error.
        Run y = Run.of("line 1 8;reader teacher 9;reader silent 9;reader copyist 9;error 100;").does("copy(2, 0)").asks("toKnow(1, 2)", Check.NONE);
        y.asks("toKnow(1, 3)", Check.NONE);
    }

    /** '(no more for him, if he is of the SET)'. */
    private static void teacherOfTheSet() {
        Run x = Run.of("line 1 8;reader teacher 9;" + FOUR_SILENT + "reader teacher 9;").asks("toKnow(1, 31)", 5).asks("toKnow(1, 3)", 2);
        x.asks("toKnow(1, 1)", 1).asks("toKnow(1, 30)", 5);
        // Another teacher of the set does it for less than one outside of it.
        x.asks("toKnow(1, 62)", 5).asks("toKnow(1, 63)", 6).asks("toKnow(1, 34)", 2);
        Run thief = Run.of("line 1 0;reader teacher 9;reader thief 9;reader thief 9;").asks("toKnow(1, 6)", 3).asks("toKnow(1, 7)", 3);
        thief.asks("toKnow(1, 2)", 1);
    }

    /** 'Of a LINE the least of these'. */
    private static void leastOfTheWays() {
        String three = "reader silent 9;reader silent 9;reader silent 9;";
        Run.of("line 1 0;reader aloud 9;reader teacher 9;" + three).asks("toKnow(1, 28)", 1).does("read(1, 0)").asks("toKnow(1, 28)", 1);
        // Aloud, but no page: a teacher who knows.
        Run x = Run.of("line 1 8;reader aloud 9;reader teacher 9;" + three).does("read(1, 0)").asks("toKnow(1, 28)", 3);
        x.asks("toKnow(1, 29)", 4);
        // Enough readings are left: no teacher is needed, though he would take one more.
        Run.of("line 1 6;reader teacher 9;" + three).asks("toKnow(1, 14)", 3).asks("toKnow(1, 15)", 4);
        Run.of("line 1 7;reader teacher 9;" + three).asks("toKnow(1, 14)", 4).asks("toKnow(1, 6)", 2);
    }

    /** 'all LINES of a SET are KNOWN in VARIANT 0 by all READERS of a SET today'. */
    private static void variantNoughtToday() {
        Run x = Run.of("line 1 0;reader copyist 9;reader silent 2;error 100;").does("copy(0, 0)", "read(1, 1)").asks("toKnow(1, 2)", 1);
        x.does("read(1, 0)").asks("toKnow(1, 2)", 0).does("dusk(1)").asks("toKnow(1, 2)", 0).does("dusk(1)").asks("toKnow(1, 2)", 1);
    }

    /** 'nobody copies'. */
    private static void nobodyCopies() {
        Run x = Run.of("line 1 8;reader copyist 9;reader silent 9;reader silent 9;error 0;").asks("toKnow(1, 6)", Check.NONE);
        x.does("read(0, 0)").asks("toKnow(1, 2)", Check.NONE).does("write(0, 0)").asks("toKnow(1, 6)", 2);
    }

    /** 'LINE by LINE by itself; NONE: some LINE cannot be so'. */
    private static void lineByLine() {
        Run x = Run.of("line 1 8;".repeat(15) + "line 1 9;reader silent 9;reader silent 9;");
        x.asks("toKnow(32767, 1)", 15).asks("toKnow(32768, 1)", Check.NONE).asks("toKnow(65535, 1)", Check.NONE).asks("toKnow(1, 3)", Check.NONE);
        x.refuses(Check.UNKNOWN, "toKnow(65536, 1)", "toKnow(1, 4)", "toKnow(65536, 0)", "toKnow(0, 4)");
        Run y = Run.of("line 1 0;".repeat(16) + FOUR_SILENT.repeat(2)).asks("toKnow(65535, 255)", 128).asks("toKnow(65535, 128)", 16);
        y.asks("toKnow(32768, 128)", 1);
        // A reader aloud counts once for each line.
        Run.of("line 1 0;line 1 0;reader aloud 9;reader silent 9;").asks("toKnow(3, 3)", 2);
    }
}
