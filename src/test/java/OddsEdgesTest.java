/** The edges under '3 REQUESTS' from LIFE to IMAGES: a method for each sentence. */
public final class OddsEdgesTest {
    private static final int LAST = 2147483647;
    /** THE SEED next to these is 0, 2147483647, 65535, 65536. */
    private static final int TO_NOUGHT = 2088216195;
    private static final int TO_LAST = 230538014;
    private static final int TO_65535 = 2032319262;
    private static final int TO_65536 = 1742513795;

    public static void main(String[] args) {
        lifeOfABillion();
        lifeIsCut();
        lifeBounds();
        rightOfAMillion();
        rightMoreThanHalf();
        rightIsCut();
        rightBounds();
        claimOfADay();
        claimOfTheTruth();
        claimBounds();
        whenceFirst();
        whenceBounds();
        catalogueTellsTheLeast();
        eachLookPales();
        seedLeftOver();
        seedBounds();
        drawOfN();
        daysByDraws();
        runBounds();
        spanFromNowOn();
        spanBounds();
        sixtyEntries();
        entryBounds();
        entryBehindDusks();
        imagesNoughtAndOne();
        imagesKeep();
        imagesKeepNotMore();
        Check.finish("OddsEdgesTest");
    }

    /** 'LIFE: of a BILLION: each day one of m PAGES is read .. not gone behind n days'. */
    private static void lifeOfABillion() {
        Run x = Run.fresh().asks("life(0, 1, 0)", 1000000000).asks("life(8, 99, 0)", 1000000000).asks("life(9, 99, 0)", 0);
        x.asks("life(9, 1, 200)", 0);
        // Of one page alone: it lives for 9 - s days, less one.
        for (int s = 0; s < 9; s++) {
            x.asks("life(" + s + ", 1, " + (8 - s) + ")", 1000000000).asks("life(" + s + ", 1, " + (9 - s) + ")", 0);
        }
        x.asks("life(0, 1, 200)", 0).asks("life(0, 2, 8)", 1000000000).asks("life(0, 2, 9)", 1000000000 - 1953125);
        // One asked behind another has nothing of it.
        x.due("life(0, 2, 100)", x.asked("life(0, 2, 100)")).due("right(40)", 1000000).due("life(8, 1, 0)", 1000000000);
        x.due("life(8, 2, 1)", 500000000).due("right(2)", 810000).due("life(9, 1, 0)", 0).due("right(1)", 900000);
    }

    /** 'read: / m (cut), not: what is left'. */
    private static void lifeIsCut() {
        // 1000000000 / 3 is cut to 333333333, 666666667 / 3 to 222222222, 444444445 / 3 to 148148148.
        Run x = Run.fresh().asks("life(8, 3, 1)", 666666667).asks("life(8, 3, 2)", 444444445).asks("life(8, 3, 3)", 296296297);
        x.asks("life(8, 99, 1)", 989898990).asks("life(8, 7, 1)", 857142858);
        // Halved until less than 2 is left: 1 / 2 is cut to 0, so the last one lives on.
        x.asks("life(8, 2, 29)", 2).asks("life(8, 2, 30)", 1).asks("life(8, 2, 200)", 1);
        // Of the last m - 1 nothing is read.
        x.asks("life(8, 3, 200)", 2);
    }

    /** life: '(s 0 .. 9, m 1 .. 99, n 0 .. 200). OUTSIDE'. */
    private static void lifeBounds() {
        Run x = Run.house().takes("life(0, 1, 0)", "life(9, 99, 200)", "life(9, 1, 0)", "life(0, 99, 0)", "life(0, 1, 200)");
        x.refuses(Check.OUTSIDE, "life(-1, 1, 0)", "life(10, 1, 0)", "life(0, 0, 0)", "life(0, 100, 0)", "life(0, -1, 0)");
        x.refuses(Check.OUTSIDE, "life(0, 1, -1)", "life(0, 1, 201)", "life(-1, 0, -1)", "life(10, 100, 201)");
        x.refuses(Check.OUTSIDE, "life(-2147483648, 1, 0)", "life(0, -2147483648, 0)", "life(0, 1, -2147483648)");
        x.refuses(Check.OUTSIDE, "life(2147483647, 1, 0)", "life(0, 2147483647, 0)", "life(0, 1, 2147483647)");
    }

    /** 'RIGHT: of a MILLION: .. each wrong by E of a hundred'. */
    private static void rightOfAMillion() {
        Run never = Run.of("error 0;").asks("right(1)", 1000000).asks("right(2)", 1000000).asks("right(40)", 1000000);
        never.asks("right(39)", 1000000);
        Run always = Run.of("error 100;").asks("right(1)", 0).asks("right(2)", 0).asks("right(40)", 0);
        always.asks("right(39)", 0);
        Run.of("error 1;").asks("right(1)", 990000);
        Run.of("error 99;").asks("right(1)", 10000).asks("right(2)", 100);
        Run.fresh().asks("right(1)", 900000);
    }

    /** 'that of c copies .. more than half are right': just half is not. */
    private static void rightMoreThanHalf() {
        Run x = Run.of("error 50;").asks("right(1)", 500000).asks("right(2)", 250000).asks("right(3)", 500000).asks("right(4)", 312500);
        x.asks("right(5)", 500000);
    }

    /** 'wrong: times E / 100 (cut), right: what is left'. */
    private static void rightIsCut() {
        // Of three copies all are right in 1 case, two in 297; then 1 * 99 / 100 is cut to 0, 297 * 99 / 100 to 294.
        Run.of("error 99;").asks("right(3)", 298).asks("right(4)", 1 + 3);
    }

    /** right: '(c 1 .. 40). OUTSIDE'. */
    private static void rightBounds() {
        Run.house().takes("right(1)", "right(40)").refuses(Check.OUTSIDE, "right(0)", "right(41)", "right(-1)", "right(2147483647)");
        Run.fresh().refuses(Check.OUTSIDE, "right(0)", "right(41)", "right(-2147483648)");
    }

    /** 'FORGED, if no copyist read a PAGE of that LINE on it (of READINGS that are written down)'. */
    private static void claimOfADay() {
        Run x = Run.of("line 1 0;line 1 0;reader silent 9;reader aloud 9;reader copyist 9;reader thief 9;reader teacher 9;error 0;");
        x.asks("claim(0, 0, 0)", 1).asks("claim(0, 1, 0)", 1).does("dusk(5)", "read(0, 0)", "read(1, 0)", "read(4, 0)");
        x.asks("claim(0, 0, 5)", 1).asks("claim(0, 7, 5)", 1).does("read(2, 0)").asks("claim(0, 0, 5)", 0).asks("claim(0, 7, 5)", 0);
        x.asks("claim(0, 0, 4)", 1).asks("claim(0, 0, 6)", 1).asks("claim(1, 0, 5)", 1).asks("claim(1, 7, 5)", 1).asks("claim(0, 99, 5)", 0);
        // A page that is gone now was read then; a later day does not count.
        x.does("read(3, 0)", "dusk(1)").asks("claim(0, 0, 5)", 0).asks("claim(0, 0, 6)", 1).does("write(2, 0)").asks("claim(0, 0, 6)", 1);
        x.does("copy(2, 2)").asks("claim(0, 0, 6)", 0);
        // Day 0 and the last day.
        Run.of("line 1 0;reader copyist 9;").does("read(0, 0)").asks("claim(0, 0, 0)", 0).asks("claim(0, 0, 9999)", 1);
        Run last = Run.of("line 1 0;reader copyist 9;").does(49, "dusk(200)").does("dusk(199)", "read(0, 0)").asks("claim(0, 0, 9999)", 0);
        last.asks("claim(0, 0, 9998)", 1);
    }

    /** 'or it has VARIANT 0 and no such PAGE had it'. */
    private static void claimOfTheTruth() {
        Run x = Run.of("line 1 0;line 1 0;reader copyist 9;reader silent 9;error 100;").does("copy(0, 0)", "dusk(1)", "read(0, 2)");
        x.due("page(2, 1)", 3).asks("claim(0, 0, 1)", 1).asks("claim(0, 1, 1)", 0).asks("claim(0, 3, 1)", 0).asks("claim(0, 0, 0)", 0);
        // A true page, but of another line, or by one who is no copyist.
        x.does("read(0, 1)", "read(1, 0)").asks("claim(0, 0, 1)", 1).does("read(0, 0)").asks("claim(0, 0, 1)", 0);
    }

    /** claim: 'UNKNOWN, OUTSIDE (VARIANT 0 .. 99, DAY 0 .. 9999)'. */
    private static void claimBounds() {
        Run x = Run.house().takes("claim(0, 0, 0)", "claim(15, 99, 9999)");
        x.refuses(Check.OUTSIDE, "claim(0, -1, 0)", "claim(0, 100, 0)", "claim(0, 0, -1)", "claim(0, 0, 10000)", "claim(0, 100, 10000)");
        x.refuses(Check.OUTSIDE, "claim(0, 2147483647, 0)", "claim(0, 0, -2147483648)");
        x.refuses(Check.UNKNOWN, "claim(-1, 0, 0)", "claim(16, 0, 0)", "claim(16, 100, 0)", "claim(-1, 0, 10000)");
        Run.fresh().refuses(Check.UNKNOWN, "claim(0, 0, 0)", "claim(0, 100, 10000)");
    }

    /** 'copyists by whom a PAGE of the LINE with that VARIANT was written first .. (one at most; 0, if it is 0 or was nowhere)'. */
    private static void whenceFirst() {
        Run x = Run.of("line 1 0;line 1 0;" + "reader silent 9;".repeat(6) + "reader copyist 9;reader copyist 9;error 1;");
        // The draw of seed 0 is 0, so there is an error; from 12345 on there is none.
        x.does("seed(0)", "copy(7, 0)").due("page(2, 1)", 3).asks("whence(0, 3)", 128).asks("whence(1, 3)", 0).asks("whence(0, 2)", 0);
        x.does("seed(12345)", "copy(6, 2)").due("page(3, 1)", 3).asks("whence(0, 3)", 128).asks("whence(0, 0)", 0).asks("whence(0, 4)", 0);
        x.does("seed(12345)", "copy(6, 0)").due("page(4, 1)", 0).asks("whence(0, 0)", 0).asks("whence(0, 99)", 0);
        x.does("seed(0)", "write(6, 0)").due("page(5, 1)", 6).asks("whence(0, 6)", 64).asks("whence(0, 5)", 0);
        // The first page is gone, but it was written first all the same.
        x.does(8, "read(0, 2)").due("page(2, 2)", 9).asks("whence(0, 3)", 128);
    }

    /** whence: 'UNKNOWN, OUTSIDE (VARIANT 0 .. 99)'. */
    private static void whenceBounds() {
        Run x = Run.house().takes("whence(0, 0)", "whence(15, 99)").refuses(Check.OUTSIDE, "whence(0, -1)", "whence(0, 100)");
        x.refuses(Check.OUTSIDE, "whence(15, 2147483647)", "whence(15, -2147483648)");
        x.refuses(Check.UNKNOWN, "whence(-1, 0)", "whence(16, 0)", "whence(16, 100)", "whence(-1, -1)");
    }

    /** 'THE CATALOGUE tells at which PAGE a LINE stands: the least that is not gone'; where: 'NONE: all are gone'. */
    private static void catalogueTellsTheLeast() {
        Run x = Run.of("line 1 7;line 1 9;reader copyist 9;reader thief 9;error 0;").does("copy(0, 0)", "copy(0, 0)").due("page(0, 2)", 9);
        x.due("where(0)", 2).does("read(0, 2)").due("where(0)", 2).does("read(1, 2)").due("where(0)", 3).does("read(1, 3)");
        x.due("where(0)", Check.NONE).due("where(1)", Check.NONE).due("line(0, 5)", 4).due("line(1, 5)", 1);
        Run.of("line 1 8;reader silent 9;").due("where(0)", 0).does("read(0, 0)").due("where(0)", Check.NONE).due("page(0, 2)", 9);
    }

    /** 'each look pales its entry by a SHADE; one of SHADE 9 is gone'; where: 'UNKNOWN, NOT: its entry is gone'. */
    private static void eachLookPales() {
        Run x = Run.of("line 1 0;line 1 9;");
        for (int shade = 0; shade < 9; shade++) {
            x.due("line(0, 5)", shade).due("where(0)", 0).due("line(1, 5)", shade).due("where(1)", Check.NONE);
        }
        x.due("line(0, 5)", 9).due("line(1, 5)", 9).refuses(Check.NOT, "where(0)", "where(1)").refuses(Check.UNKNOWN, "where(2)", "where(-1)");
        // The page and its line are as they were.
        x.due("page(0, 2)", 0).due("line(0, 1)", 1).does("dusk(200)").refuses(Check.NOT, "where(0)");
    }

    private static Run oneReader() {
        return Run.of("line 1 0;reader silent 9;");
    }

    /** 'THE SEED (0 at first: each DRAW it becomes it times 1103515245 and 12345, left over by 2 to the 31'. */
    private static void seedLeftOver() {
        int[][] next = {{0, 12345}, {LAST, 1043980748}, {TO_NOUGHT, 0}, {TO_LAST, LAST}, {TO_65535, 65535}, {TO_65536, 65536}};
        for (int[] pair : next) {
            oneReader().does("seed(" + pair[0] + ")", "run(1)").due("seed(0)", pair[1]);
            Run.of("line 1 0;reader copyist 9;").does("seed(" + pair[0] + ")", "copy(0, 0)").due("seed(0)", pair[1]);
            Run w = Run.of("line 1 0;reader copyist 9;").does("read(0, 0)", "seed(" + pair[0] + ")", "write(0, 0)").due("seed(0)", pair[1]);
            w.due("seed(0)", 0);
        }
        Run.fresh().due("seed(0)", 0);
        oneReader().due("seed(0)", 0);
    }

    /** seed: 'THE SEED becomes v (0 .. 2147483647): what it was. OUTSIDE'. */
    private static void seedBounds() {
        Run x = Run.house().does("seed(7)").refuses(Check.OUTSIDE, "seed(-1)", "seed(-2147483648)", "seed(-2147483647)");
        x.due("seed(2147483647)", 7).due("seed(0)", LAST).due("seed(1)", 0).due("seed(1)", 1);
    }

    /** 'the DRAW of n is it / 65536, left over by n'. */
    private static void drawOfN() {
        // Of 16 pages: 65535 / 65536 is 0, 65536 / 65536 is 1, 2147483647 / 65536 is 32767, which leaves 15.
        int[][] drawn = {{TO_NOUGHT, 0}, {TO_65535, 0}, {TO_65536, 1}, {TO_LAST, 15}};
        for (int[] pair : drawn) {
            Run x = Run.of("line 1 0;".repeat(16) + "reader silent 9;").does("seed(" + pair[0] + ")", "run(1)").due("reading(0, 1)", pair[1]);
            x.due("told(4)", 1);
        }
        // Of 38 pages 32767 leaves 11, of 40 it leaves 7; a page that is gone is one of them, too.
        Run full = Run.of("line 1 9;line 1 0;reader copyist 9;error 0;").does("copy(0, 1)").does(35, "write(0, 1)");
        full.due("told(2)", 38).twin().does("seed(" + TO_LAST + ")", "run(1)").due("reading(1, 1)", 11);
        full.does("write(0, 1)", "write(0, 1)").due("told(2)", 40).does("seed(" + TO_LAST + ")", "run(1)").due("reading(1, 1)", 7);
        // Of one page there is a draw, too.
        oneReader().does("run(1)").due("reading(0, 1)", 0).due("seed(0)", 12345);
    }

    /** 'n days: READERS in order: a DRAW of PAGES: reads it, if it is not gone; then DUSK'. */
    private static void daysByDraws() {
        Run x = Run.of("line 1 7;reader silent 1;reader silent 2;reader thief 3;").due("run(1)", 1).due("told(4)", 2).due("told(7)", 1);
        // In order: the thief came too late; the first has forgotten at dusk, the second has not.
        x.due("reading(0, 2)", 0).due("reading(1, 2)", 1).due("reading(1, 0)", 0).due("line(0, 3)", 2).due("page(0, 2)", 9);
        int seed = x.asked("seed(0)");
        Check.due("three draws, read or not", seed, next(next(next(0))));
        // Without readers there are days, but no draws; with no page left there are draws still.
        Run.of("line 1 0;").due("run(100)", 0).due("told(7)", 100).due("seed(0)", 0);
        Run.of("line 1 9;reader silent 1;").due("run(2)", 1).due("told(7)", 2).due("seed(0)", next(next(0)));
    }

    private static int next(int seed) {
        return (int) ((seed * 1103515245L + 12345L) % 2147483648L);
    }

    /** run: 'n DAYS BY DRAWS (1 .. 100) .. how many PAGES are gone. OUTSIDE, NOT: no PAGES'. */
    private static void runBounds() {
        Run.house().takes("run(1)", "run(100)").refuses(Check.OUTSIDE, "run(0)", "run(101)", "run(-1)", "run(2147483647)", "run(-2147483648)");
        Run.fresh().refuses(Check.NOT, "run(1)", "run(100)").refuses(Check.OUTSIDE, "run(0)", "run(101)");
        Run.of("reader silent 9;").refuses(Check.NOT, "run(1)", "run(100)").refuses(Check.OUTSIDE, "run(0)", "run(101)");
        // All pages are gone: there are pages all the same.
        Run.of("line 1 9;line 1 9;").due("run(1)", 2).due("told(7)", 1);
        Run.of("line 1 9;line 1 0;").due("run(1)", 1);
        Run.of("line 1 0;line 1 0;").due("run(100)", 0).due("told(7)", 100);
    }

    /** 'SPAN: k times so, each from now on, with THE SEED as it has become: the least, the greatest number of LINES KEPT'. */
    private static void spanFromNowOn() {
        Run x = Run.of("line 1 8;line 1 8;reader silent 1;");
        // Each time one of two is read, and forgotten at dusk: one is kept; behind many days none is.
        x.asks("span(1, 1, 0)", 1).asks("span(1, 20, 0)", 1).asks("span(1, 20, 1)", 1).asks("span(100, 20, 1)", 0);
        // What is known for two days is kept behind one, what is known for a day is not.
        Run.of("line 1 8;reader silent 2;").asks("span(1, 1, 0)", 1).asks("span(2, 1, 1)", 0);
        Run.of("line 1 8;reader silent 1;").asks("span(1, 1, 1)", 0);
        // The thief takes one along each time, but not one more each time.
        Run.of("line 1 0;line 1 0;line 1 0;reader thief 1;").asks("span(1, 20, 0)", 2).asks("span(1, 20, 1)", 2);
        // One true page beside one that is gone: it is read when its number is drawn.
        Run y = Run.of("line 1 9;line 1 8;reader silent 1;");
        int seed = 0;
        int least = 1;
        int greatest = 0;
        for (int k = 1; k <= 20; k++) {
            seed = next(seed);
            int kept = seed / 65536 % 2 == 1 ? 0 : 1;
            least = Math.min(least, kept);
            greatest = Math.max(greatest, kept);
            y.asks("span(1, " + k + ", 0)", least).asks("span(1, " + k + ", 1)", greatest);
        }
        Check.due("the seeds differ", greatest - least, 1);
        // No lines are kept; all are.
        Run.of("line 1 9;reader silent 1;").asks("span(100, 20, 0)", 0).asks("span(100, 20, 1)", 0);
        Run.of("line 1 0;".repeat(16)).asks("span(100, 20, 0)", 16).asks("span(100, 20, 1)", 16);
    }

    /** span: 'n days (1 .. 100), k 1 .. 20: what = 0 the least, 1 the greatest. OUTSIDE, NOT: no PAGES'. */
    private static void spanBounds() {
        Run x = Run.house().takes("span(1, 1, 0)", "span(100, 20, 1)", "span(100, 1, 0)", "span(1, 20, 1)");
        x.refuses(Check.OUTSIDE, "span(0, 1, 0)", "span(101, 1, 0)", "span(1, 0, 0)", "span(1, 21, 0)", "span(1, 1, -1)", "span(1, 1, 2)");
        x.refuses(Check.OUTSIDE, "span(-1, 1, 0)", "span(1, -1, 0)", "span(2147483647, 1, 0)", "span(1, 2147483647, 0)");
        Run.of("reader silent 9;").refuses(Check.NOT, "span(1, 1, 0)", "span(100, 20, 1)");
        Run.fresh().refuses(Check.NOT, "span(1, 1, 0)").refuses(Check.OUTSIDE, "span(0, 1, 0)", "span(1, 21, 0)", "span(1, 1, 2)");
    }

    /** 'THE DIARY is a row of how many LINES were KEPT (60 at most)'; note: 'FULL (60)'; tear: 'how many it had'. */
    private static void sixtyEntries() {
        Run x = Run.of("line 1 0;").due("tear()", 0);
        for (int i = 1; i <= 60; i++) {
            x.due("note(1)", i);
        }
        x.refuses(Check.FULL, "note(0)", "note(1)", "note(16)").due("told(5)", 60).asks("judge()", Check.NONE).due("tear()", 60);
        x.due("told(5)", 0).due("tear()", 0).asks("judge()", Check.NONE).due("note(0)", 1).asks("judge()", 0);
    }

    /** note: 'An entry (0 .. 16) .. OUTSIDE'. */
    private static void entryBounds() {
        Run x = Run.fresh().refuses(Check.OUTSIDE, "note(-1)", "note(17)", "note(2147483647)", "note(-2147483648)").due("note(0)", 1);
        x.asks("judge()", Check.NONE).due("note(16)", 2).asks("judge()", 1);
        Run y = Run.of("line 1 0;".repeat(16)).refuses(Check.OUTSIDE, "note(17)").due("note(16)", 1).asks("judge()", Check.NONE);
        y.does("note(15)").asks("judge()", 1);
    }

    /** 'entry j behind j DUSKS from now on, if nothing is done. WRONG: the first that is other'; judge: 'NONE'. */
    private static void entryBehindDusks() {
        // Kept by heart for 59 days: entries 0 to 58 are 1, entry 59 is 0.
        Run x = Run.of("line 1 8;reader silent 59;").does("read(0, 0)").does(59, "note(1)").asks("judge()", Check.NONE);
        x.twin().does("note(1)").asks("judge()", 59);
        x.twin().does("note(0)").asks("judge()", Check.NONE).does("dusk(1)").asks("judge()", 58);
        Run.of("line 1 8;reader silent 60;").does("read(0, 0)").does(60, "note(1)").asks("judge()", Check.NONE);
        // The first entry is today's; of two that are other it is the first.
        Run.of("line 1 8;reader silent 1;").does("read(0, 0)", "note(1)", "note(0)").asks("judge()", Check.NONE);
        Run.of("line 1 8;reader silent 1;").does("read(0, 0)", "note(0)", "note(1)").asks("judge()", 0);
        Run.of("line 1 8;reader silent 1;").does("read(0, 0)", "note(1)", "note(1)", "note(1)").asks("judge()", 1);
        // Behind the last day nothing is forgotten.
        Run late = Run.of("line 1 8;reader silent 2;").does(49, "dusk(200)").does("dusk(198)", "read(0, 0)").does(5, "note(1)");
        late.asks("judge()", Check.NONE);
        Run earlier = Run.of("line 1 8;reader silent 2;").does(49, "dusk(200)").does("dusk(197)", "read(0, 0)").does(5, "note(1)");
        earlier.asks("judge()", 2);
    }

    /** 'IMAGES 0, 1'; keep: 'UNKNOWN'; goBack: 'UNKNOWN, NOT: it was not kept'. */
    private static void imagesNoughtAndOne() {
        Run x = Run.house().refuses(Check.UNKNOWN, "keep(-1)", "keep(2)", "keep(2147483647)", "keep(-2147483648)");
        x.refuses(Check.UNKNOWN, "goBack(-1)", "goBack(2)", "goBack(2147483647)", "goBack(-2147483648)").refuses(Check.NOT, "goBack(1)");
        x.would("keep(1)", 1).would("goBack(0)", 1);
        Run y = Run.of("line 1 0;reader silent 9;").refuses(Check.NOT, "goBack(0)", "goBack(1)").due("keep(0)", 1).refuses(Check.NOT, "goBack(1)");
        y.does("dusk(1)").due("keep(1)", 1).does("dusk(1)").due("goBack(0)", 1).due("told(7)", 0).due("goBack(1)", 1).due("told(7)", 1);
        // An image becomes what is so now, as often as it is kept, and is there as often as one goes back.
        y.does("dusk(7)").due("keep(1)", 1).does("dusk(1)").due("goBack(1)", 1).due("told(7)", 8).due("goBack(1)", 1).due("told(7)", 8);
        y.due("goBack(0)", 1).due("told(7)", 0);
        // Of an object without a library, too; a library ends it.
        Run z = Run.fresh().refuses(Check.NOT, "goBack(0)").due("keep(0)", 1).does("dusk(3)").due("goBack(0)", 1).due("told(7)", 0);
        z.feeds("line 1 0;").due("library()", 1).refuses(Check.NOT, "goBack(0)");
    }

    /** 'IMAGES .. keep PAGES, who KNOWS what, THE CATALOGUE, READINGS, THE DAY, THE SEED'. */
    private static void imagesKeep() {
        Run x = Run.of("line 1 0;reader copyist 2;reader silent 9;error 50;").does("copy(0, 0)", "where(0)", "dusk(1)", "seed(5)", "keep(1)");
        x.leavesAll("copy(0, 0)", "write(0, 0)", "goBack(1)");
        x.leavesAll("read(1, 0)", "read(1, 1)", "goBack(1)");
        x.leavesAll("where(0)", "where(0)", "goBack(1)");
        x.leavesAll("dusk(2)", "goBack(1)");
        x.leavesAll("seed(9)", "goBack(1)");
        x.leavesAll("run(100)", "goBack(1)");
        imagesGoApart();
        x.due("knows(0, 0, 1)", 0).due("line(0, 5)", 1).due("told(2)", 2).due("told(7)", 1).due("told(4)", 1).due("seed(5)", 5);
    }

    /** Two images with as many pages and readings: each has its own, and who wrote them. */
    private static void imagesGoApart() {
        Run x = Run.of("line 1 0;line 1 0;reader copyist 9;reader copyist 9;error 100;").does("keep(0)", "copy(0, 0)", "keep(1)", "goBack(0)");
        x.asks("whence(0, 3)", 0).does("dusk(4)", "copy(1, 1)", "keep(0)").leavesAll("goBack(1)", "read(0, 0)", "goBack(0)");
        x.due("reading(0, 0)", 4).due("reading(0, 1)", 1).due("reading(0, 2)", 1).due("whence(1, 3)", 2).due("whence(0, 3)", 0);
        x.due("goBack(1)", 1).due("reading(0, 0)", 0).due("reading(0, 1)", 0).due("reading(0, 2)", 0).due("whence(0, 3)", 1);
        x.due("whence(1, 3)", 0).due("page(2, 0)", 0).due("goBack(0)", 1).due("page(2, 0)", 1).due("whence(1, 3)", 2);
        // By the same page, each of another copyist.
        Run y = Run.of("line 1 0;reader copyist 9;reader copyist 9;error 100;").does("keep(0)", "copy(0, 0)", "keep(1)", "goBack(0)");
        y.does("copy(1, 0)").due("whence(0, 2)", 2).does("goBack(1)").due("whence(0, 2)", 1);
    }

    /** What the sentence does not name is not kept: REQUESTS, THE DIARY, THE TEXT, the FAULT. */
    private static void imagesKeepNotMore() {
        Run x = Run.of("line 1 0;reader silent 9;").does("keep(0)", "request(0, 0, 5)", "note(1)").feeds("x").does("library()").feeds("li");
        x.due("goBack(0)", 1).due("told(3)", 1).due("told(5)", 1).due("told(6)", 2).due("fault()", 0).due("grant(1)", 5);
        x.does("forget()", "tear()").due("goBack(0)", 1).due("told(3)", 0).due("told(5)", 0);
    }
}
