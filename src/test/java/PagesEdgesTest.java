/** The edges under '2 PAGES': a method for each sentence. */
public final class PagesEdgesTest {
    private static final String KINDS = "reader silent 5;reader aloud 5;reader copyist 5;reader thief 5;reader teacher 5;";

    public static void main(String[] args) {
        fortyPages();
        firstPages();
        variantNought();
        shadeNineIsGone();
        dayNought();
        lastDay();
        shadeIsOneMore();
        readerKnows();
        allKnowIfAloud();
        thiefTakesItAlong();
        copyIsForCopyists();
        copyReadsThePage();
        copyOfShadeNought();
        drawBelowE();
        variantThatWasNowhere();
        writeIsForCopyistsWhoKnow();
        writeWhatTheyKnow();
        teachIsForTeachersWhoKnow();
        heHimselfAnew();
        oneVariantTheLatest();
        forgetsBehindF();
        keptOnAPage();
        keptInAHeart();
        moreThanHalf();
        first300Readings();
        copyingIsReading();
        Check.finish("PagesEdgesTest");
    }

    /** 'PAGES (40 at most)'; copy, write: 'FULL'. */
    private static void fortyPages() {
        Run x = Run.of("line 1 0;reader copyist 9;error 0;");
        for (int p = 1; p < 39; p++) {
            x.does("copy(0, " + (p - 1) + ")");
        }
        x.due("told(2)", 39).refuses(Check.UNKNOWN, "page(39, 0)", "read(0, 39)", "copy(0, 39)");
        Run y = x.twin().due("write(0, 0)", 39);
        y.refuses(Check.FULL, "write(0, 0)", "copy(0, 38)", "copy(0, 39)").due("told(2)", 40);
        x.due("copy(0, 38)", 39).due("page(39, 2)", 0).refuses(Check.FULL, "copy(0, 39)", "write(0, 0)");
        // A full library is read on, and a page that is gone makes no room.
        x.due("read(0, 39)", 1).does(8, "read(0, 39)").due("page(39, 2)", 9).refuses(Check.FULL, "copy(0, 38)", "write(0, 0)");
        x.refuses(Check.UNKNOWN, "page(40, 0)", "read(0, 40)");
    }

    /** 'PAGE l is that of LINE l at first; copies come behind'. */
    private static void firstPages() {
        Run x = Run.of("line 1 0;".repeat(15) + "reader copyist 9;line 1 4;error 0;");
        for (int l = 0; l < 16; l++) {
            x.due("page(" + l + ", 0)", l).due("page(" + l + ", 1)", 0);
        }
        x.due("page(15, 2)", 4).refuses(Check.UNKNOWN, "page(16, 0)").due("copy(0, 3)", 16).due("page(16, 0)", 3);
        x.due("write(0, 3)", 17).due("copy(0, 15)", 18).due("page(18, 0)", 15);
        Run.of("").due("told(2)", 0).refuses(Check.UNKNOWN, "page(0, 0)");
    }

    /** 'Each holds a LINE in a VARIANT: 0 is the true one'. */
    private static void variantNought() {
        Run x = Run.of("line 1 8;reader copyist 9;error 100;").due("page(0, 1)", 0).does("copy(0, 0)").due("page(1, 1)", 2);
        x.due("line(0, 1)", 1).does("read(0, 1)").due("line(0, 1)", 0);
    }

    /** 'A PAGE of SHADE 9 is gone': one of 8 is not. */
    private static void shadeNineIsGone() {
        Run x = Run.of("line 1 8;line 2 9;" + KINDS);
        x.due("line(0, 2)", 1).due("line(1, 2)", 0).due("line(0, 1)", 1).due("line(1, 1)", 0).due("told(9)", 1);
        x.due("line(0, 4)", 0).due("line(1, 4)", Check.NONE).due("where(0)", 0).due("where(1)", Check.NONE);
        x.refuses(Check.NOT, "read(0, 1)", "read(1, 1)", "read(3, 1)", "copy(2, 1)").takes("read(0, 0)", "read(3, 0)", "copy(2, 0)");
        x.asks("toKnow(1, 1)", 1).asks("toKnow(2, 1)", Check.NONE).does("request(0, 0, 5)", "request(0, 1, 7)");
        x.asks("best(0, 0)", 1).asks("best(0, 1)", 6).due("grant(3)", 5).due("page(0, 2)", 9).refuses(Check.NOT, "read(0, 0)");
        // What is drawn but gone is not read, though it was drawn.
        Run.of("line 2 9;reader silent 5;").due("run(1)", 1).due("told(4)", 0).due("seed(0)", 12345);
        Run.of("line 2 8;reader silent 5;").due("run(1)", 1).due("told(4)", 1).due("page(0, 2)", 9).due("seed(0)", 12345);
    }

    /** 'THE DAY is 0 at first'. */
    private static void dayNought() {
        Run.fresh().due("told(7)", 0);
        Run.of("line 1 0;reader silent 5;").due("told(7)", 0).does("read(0, 0)").due("knows(0, 0, 1)", 0).due("reading(0, 0)", 0);
    }

    /** '9999 at most'; dusk, run: 'to DAY 9999 at most'. */
    private static void lastDay() {
        Run x = Run.of("line 1 0;line 1 8;reader silent 2;reader silent 2;error 0;").does(49, "dusk(200)").due("dusk(197)", 9997);
        x.would("dusk(1)", 9998).would("dusk(2)", 9999).would("dusk(3)", 9999).would("dusk(200)", 9999);
        Run late = x.twin().due("dusk(1)", 9998).does("read(0, 1)").due("dusk(1)", 9999).due("knows(0, 1, 1)", 9998);
        // Behind the last day no dusk goes by, so nobody forgets.
        late.leavesAll("dusk(1)", "dusk(200)").due("knows(0, 1, 0)", 0).due("line(1, 1)", 1).due("claim(1, 0, 9999)", 1);
        late.leavesAll("run(1)", "run(100)").asks("span(100, 20, 0)", 2).asks("best(200, 2)", 0);
        late.refuses(Check.OUTSIDE, "dusk(0)", "dusk(201)", "run(0)", "run(101)");
        late.does("read(1, 0)").due("reading(1, 0)", 9999).due("knows(1, 0, 1)", 9999);
        // Two days by draws are left: two readers read on each.
        Run drawn = Run.of("line 1 0;reader silent 2;reader silent 2;").does(49, "dusk(200)").does("dusk(197)");
        drawn.due("run(100)", 0).due("told(7)", 9999).due("told(4)", 4).due("reading(1, 0)", 9997).due("reading(3, 0)", 9998);
        Run oneLeft = Run.of("line 1 0;reader silent 2;").does(49, "dusk(200)").does("dusk(198)");
        oneLeft.due("run(1)", 0).due("told(7)", 9999).due("told(4)", 1);
    }

    /** 'TO READ a PAGE that is not gone: its SHADE is one more'. */
    private static void shadeIsOneMore() {
        Run x = Run.of("line 1 0;" + KINDS);
        for (int shade = 1; shade <= 9; shade++) {
            x.due("read(" + (shade % 2 == 0 ? 0 : 4) + ", 0)", shade);
        }
        x.refuses(Check.NOT, "read(0, 0)").due("page(0, 2)", 9).due("page(0, 3)", 9);
        Run.of("line 1 8;" + KINDS).would("read(0, 0)", 9).would("read(1, 0)", 9).would("read(2, 0)", 9).would("read(4, 0)", 9);
    }

    /** 'the READER KNOWS its LINE in its VARIANT from THE DAY on'. */
    private static void readerKnows() {
        Run x = Run.of("line 1 0;line 1 0;" + KINDS).does("dusk(7)", "read(0, 1)");
        x.due("knows(0, 1, 0)", 0).due("knows(0, 1, 1)", 7).due("knows(0, 0, 0)", Check.NONE).due("line(1, 3)", 1);
        x.due("read(3, 1)", 9).due("knows(3, 1, 1)", 7).due("line(1, 3)", 9);
    }

    /** 'all READERS do, if he reads aloud'. */
    private static void allKnowIfAloud() {
        Run.of("line 1 8;" + KINDS).does("dusk(3)", "read(1, 0)").due("line(0, 3)", 31).due("knows(4, 0, 1)", 3);
        Run.of("line 1 0;reader aloud 1;").does("read(0, 0)").due("line(0, 3)", 1);
        Run eight = Run.of("line 1 0;reader aloud 5;" + "reader silent 9;".repeat(7)).does("read(0, 0)").due("line(0, 3)", 255);
        eight.due("knows(7, 0, 0)", 0).due("told(4)", 1).due("page(0, 2)", 1);
    }

    /** 'a thief takes it along: its SHADE is 9'. */
    private static void thiefTakesItAlong() {
        for (int shade = 0; shade <= 8; shade++) {
            Run x = Run.of("line 1 " + shade + ";" + KINDS).due("read(3, 0)", 9).due("page(0, 2)", 9).due("page(0, 3)", 1);
            x.due("line(0, 2)", 0).due("line(0, 1)", 1).refuses(Check.NOT, "read(3, 0)");
        }
        Run.of("line 1 9;" + KINDS).refuses(Check.NOT, "read(3, 0)");
    }

    /** 'TO COPY is for copyists'; copy: 'NOT: no copyist, it is gone'. */
    private static void copyIsForCopyists() {
        Run x = Run.of("line 1 8;line 1 9;" + KINDS).refuses(Check.NOT, "copy(0, 0)", "copy(1, 0)", "copy(3, 0)", "copy(4, 0)");
        x.refuses(Check.NOT, "copy(2, 1)", "copy(0, 1)").due("copy(2, 0)", 2).refuses(Check.NOT, "copy(2, 0)");
    }

    /** 'the PAGE is read'. */
    private static void copyReadsThePage() {
        Run x = Run.of("line 1 7;" + KINDS + "error 0;").does("dusk(2)").due("copy(2, 0)", 1).due("page(0, 2)", 8);
        x.due("page(0, 3)", 1).due("knows(2, 0, 1)", 2).due("line(0, 3)", 4).due("copy(2, 0)", 2).due("page(0, 2)", 9);
        x.refuses(Check.NOT, "copy(2, 0)").due("told(4)", 2);
        // A copyist knows what stood on the page, not what went wrong.
        Run.of("line 1 0;" + KINDS + "error 100;").does("copy(2, 0)").due("page(1, 1)", 2).due("knows(2, 0, 0)", 0);
    }

    /** 'a new PAGE of the LINE has SHADE 0 and its VARIANT'. */
    private static void copyOfShadeNought() {
        Run x = Run.of("line 1 0;line 2 8;reader copyist 9;error 1;").due("copy(0, 1)", 2).due("page(2, 2)", 0);
        // The draw of seed 0 is 0, so the first copy had an error; from 12345 on it is no 0, so it is copied on rightly.
        x.due("page(2, 1)", 3).does("seed(12345)").due("copy(0, 2)", 3).due("page(3, 1)", 3).due("page(3, 0)", 1).due("page(3, 2)", 0);
        // Where another page was, in an earlier library or ahead of going back, the new one has nothing of it.
        Run z = Run.of("line 1 0;reader copyist 9;reader thief 9;error 0;").does("copy(0, 0)", "read(1, 1)");
        z.feeds("line 1 0;reader copyist 9;error 0;").does("library()").due("copy(0, 0)", 1).due("page(1, 2)", 0).due("line(0, 2)", 2);
        Run y = Run.of("line 1 0;reader copyist 9;reader thief 9;error 0;").does("keep(0)", "copy(0, 0)", "read(1, 1)", "goBack(0)");
        y.due("copy(0, 0)", 1).due("page(1, 2)", 0).does("read(1, 1)", "goBack(0)", "read(0, 0)").due("write(0, 0)", 1).due("page(1, 2)", 0);
    }

    /** 'with a DRAW of 100 below E another one': a DRAW of E is none. */
    private static void drawBelowE() {
        int[] draws = {0, 1, 50, 98, 99};
        for (int draw : draws) {
            int seed = seedOfDraw(draw);
            for (int e = Math.max(0, draw - 1); e <= draw + 1; e++) {
                int wrong = draw < e ? 1 : 0;
                Run x = Run.of("line 1 0;reader copyist 9;error " + e + ";").does("seed(" + seed + ")").due("copy(0, 0)", 1);
                x.due("page(1, 1)", wrong * 2).does("seed(" + seed + ")").due("write(0, 0)", 2).due("page(2, 1)", wrong * 3);
            }
        }
        Run never = Run.of("line 1 0;reader copyist 99;error 0;").does("read(0, 0)").does(30, "write(0, 0)");
        Run always = Run.of("line 1 0;reader copyist 99;error 100;").does("read(0, 0)").does(30, "write(0, 0)");
        for (int p = 1; p <= 30; p++) {
            never.due("page(" + p + ", 1)", 0);
            always.due("page(" + p + ", 1)", p + 1);
        }
    }

    private static int seedOfDraw(int draw) {
        for (int seed = 0; seed < 1000000; seed++) {
            if ((seed * 1103515245L + 12345L) % 2147483648L / 65536 % 100 == draw) {
                return seed;
            }
        }
        throw new IllegalStateException("no seed draws " + draw);
    }

    /** 'that was nowhere yet: the number of the new PAGE and 1'. */
    private static void variantThatWasNowhere() {
        Run x = Run.of("line 1 0;reader copyist 99;error 100;").does("copy(0, 0)").due("page(1, 1)", 2);
        x.does(38, "write(0, 0)").due("page(39, 1)", 40).due("page(38, 1)", 39).due("whence(0, 40)", 1).due("whence(0, 41)", 0);
        Run y = Run.of("line 1 0;".repeat(16) + "reader copyist 9;error 100;").due("copy(0, 15)", 16).due("page(16, 1)", 17);
        y.due("copy(0, 16)", 17).due("page(17, 1)", 18);
    }

    /** 'TO WRITE is for copyists who KNOW a LINE'; write: 'NOT: no copyist, the LINE is not KNOWN'. */
    private static void writeIsForCopyistsWhoKnow() {
        Run x = Run.of("line 1 0;line 1 0;" + KINDS + "error 0;").refuses(Check.NOT, "write(2, 0)", "write(2, 1)", "write(0, 0)");
        x.does("read(1, 0)").refuses(Check.NOT, "write(0, 0)", "write(1, 0)", "write(3, 0)", "write(4, 0)", "write(2, 1)");
        x.due("write(2, 0)", 2).does("dusk(4)").due("write(2, 0)", 3).does("dusk(1)").refuses(Check.NOT, "write(2, 0)");
    }

    /** 'a new PAGE with what they KNOW (with the same DRAW)'. */
    private static void writeWhatTheyKnow() {
        Run x = Run.of("line 1 8;reader copyist 9;error 1;").does("copy(0, 0)", "read(0, 1)").due("knows(0, 0, 0)", 2);
        // All true pages are gone, and one writes by heart what is wrong.
        x.does("seed(12345)").due("write(0, 0)", 2).due("page(2, 1)", 2).due("page(2, 2)", 0).due("told(4)", 2).due("knows(0, 0, 0)", 2);
        x.does("seed(0)").due("write(0, 0)", 3).due("page(3, 1)", 4).due("seed(0)", 12345);
    }

    /** 'TO TEACH is for teachers who KNOW a LINE'; teach: 'UNKNOWN (one twice), NOT: no teacher, the LINE is not KNOWN'. */
    private static void teachIsForTeachersWhoKnow() {
        Run x = Run.of("line 1 0;line 1 0;" + KINDS).refuses(Check.NOT, "teach(4, 0, 0)", "teach(4, 0, 1)", "teach(0, 4, 0)");
        x.does("read(1, 0)").refuses(Check.NOT, "teach(0, 4, 0)", "teach(1, 0, 0)", "teach(2, 0, 0)", "teach(3, 0, 0)", "teach(4, 0, 1)");
        x.refuses(Check.UNKNOWN, "teach(4, 4, 0)", "teach(0, 0, 0)", "teach(4, 4, 1)");
        x.does("dusk(4)").would("teach(4, 0, 0)", 0).does("dusk(1)").refuses(Check.NOT, "teach(4, 0, 0)");
    }

    /** 'the other one KNOWS it so from THE DAY on, and he himself anew'. */
    private static void heHimselfAnew() {
        Run x = Run.of("line 1 0;reader teacher 3;reader silent 2;").does("read(0, 0)", "dusk(2)").due("teach(0, 1, 0)", 0);
        x.due("knows(0, 0, 1)", 2).due("knows(1, 0, 1)", 2).does("dusk(1)").due("line(0, 3)", 3).does("dusk(1)").due("line(0, 3)", 1);
        x.does("dusk(1)").due("line(0, 3)", 0);
    }

    /** 'One KNOWS one VARIANT of a LINE, the latest'. */
    private static void oneVariantTheLatest() {
        Run x = Run.of("line 1 0;reader copyist 9;reader silent 9;reader aloud 9;reader teacher 9;error 100;").does("copy(0, 0)");
        x.does("read(1, 0)").due("knows(1, 0, 0)", 0).does("read(1, 1)").due("knows(1, 0, 0)", 2).does("read(1, 0)").due("knows(1, 0, 0)", 0);
        x.does("read(2, 1)").due("knows(1, 0, 0)", 2).due("knows(0, 0, 0)", 2).does("read(3, 0)", "teach(3, 1, 0)").due("knows(1, 0, 0)", 0);
        x.due("reader(1, 2)", 1);
    }

    /** 'and forgets it when F days have gone by since then (at DUSK, THE DAY being one more)'. */
    private static void forgetsBehindF() {
        int[] terms = {1, 2, 98, 99};
        for (int f : terms) {
            Run x = Run.of("line 1 8;reader silent " + f + ";").does("dusk(5)", "read(0, 0)").due("knows(0, 0, 0)", 0);
            if (f > 1) {
                x.does("dusk(" + (f - 1) + ")");
            }
            x.due("told(7)", 5 + f - 1).due("knows(0, 0, 0)", 0).due("knows(0, 0, 1)", 5).due("line(0, 1)", 1).due("reader(0, 2)", 1);
            x.due("told(9)", 1).does("dusk(1)").due("knows(0, 0, 0)", Check.NONE).due("knows(0, 0, 1)", Check.NONE).due("line(0, 1)", 0);
            x.due("told(9)", 0).due("reader(0, 2)", 0).due("line(0, 3)", 0).due("line(0, 4)", Check.NONE);
        }
        // In one step it is the same; and who reads again begins anew.
        Run.of("line 1 8;reader silent 99;").does("read(0, 0)", "dusk(99)").due("knows(0, 0, 0)", Check.NONE);
        Run again = Run.of("line 1 0;reader silent 3;").does("read(0, 0)", "dusk(2)", "read(0, 0)", "dusk(2)").due("knows(0, 0, 1)", 2);
        again.does("dusk(1)").due("knows(0, 0, 1)", Check.NONE);
    }

    /** 'A LINE is KEPT, if a PAGE that is not gone holds VARIANT 0'. */
    private static void keptOnAPage() {
        Run x = Run.of("line 1 8;line 1 9;reader copyist 1;error 100;").due("line(0, 1)", 1).due("line(1, 1)", 0).does("copy(0, 0)");
        // The true page is gone; the copy holds an error; only the copyist's heart keeps it, for a day.
        x.due("page(0, 2)", 9).due("line(0, 2)", 1).due("line(0, 1)", 1).does("dusk(1)").due("line(0, 1)", 0).due("told(9)", 0);
        Run y = Run.of("line 1 8;reader copyist 1;error 0;").does("copy(0, 0)", "dusk(1)").due("line(0, 1)", 1).due("told(9)", 1);
        y.due("line(0, 2)", 1);
    }

    /** 'or a READER KNOWS it so'. */
    private static void keptInAHeart() {
        Run x = Run.of("line 1 8;reader copyist 9;reader silent 3;error 100;").does("copy(0, 0)", "read(1, 1)").due("line(0, 1)", 1);
        // One who knows an error keeps nothing.
        x.does("read(0, 1)").due("line(0, 3)", 3).due("line(0, 1)", 0).due("told(9)", 0);
    }

    /** 'VOTE: the VARIANT of more than half of all PAGES .. that are not gone and of READERS who KNOW it (one each); NONE'. */
    private static void moreThanHalf() {
        Run.of("line 1 9;reader silent 3;").due("line(0, 4)", Check.NONE);
        Run.of("line 1 8;reader silent 3;").due("line(0, 4)", 0).does("read(0, 0)").due("line(0, 4)", 0).does("dusk(3)").due("line(0, 4)", -1);
        Run x = Run.of("line 1 0;reader copyist 3;reader silent 9;reader thief 9;error 100;").does("copy(0, 0)", "dusk(3)");
        x.due("line(0, 4)", Check.NONE);                                    // 1 of 2
        x.would("read(1, 1)", 1).does("read(1, 1)").due("line(0, 4)", 2);   // 2 of 3
        x.does("read(0, 0)").due("line(0, 4)", Check.NONE);                 // 2 of 4
        x.does("read(2, 1)").due("line(0, 4)", Check.NONE);                 // its page is gone, but the thief knows: 2 of 4
        x.does("dusk(3)").due("line(0, 4)", 2);                             // the copyist forgot: 2 of 3
        twentyOfForty();
        // Each of 39 pages is another error; the thief takes them along one by one, and knows the latest.
        Run z = Run.of("line 1 8;reader copyist 1;reader thief 9;error 100;").does("copy(0, 0)").does(38, "write(0, 0)").does("dusk(1)");
        for (int p = 1; p < 40; p++) {
            z.due("line(0, 4)", Check.NONE).does("read(1, " + p + ")");
        }
        z.due("line(0, 2)", 0).due("line(0, 4)", 40);
    }

    /** The draw of seed 0 is below 1, the next one is not: so pages 1 to 20 have one error, the others are true. */
    private static void twentyOfForty() {
        Run x = Run.of("line 1 0;reader copyist 1;reader silent 9;error 1;").does("copy(0, 0)", "read(0, 1)");
        for (int p = 2; p < 40; p++) {
            x.does(p == 21 ? "read(0, 0)" : "told(0)", "seed(12345)").due("write(0, 0)", p).due("page(" + p + ", 1)", p < 21 ? 2 : 0);
        }
        x.does("dusk(1)").due("line(0, 2)", 40).due("line(0, 3)", 0).due("line(0, 4)", Check.NONE);
        x.twin().does("read(1, 1)").due("line(0, 4)", 2);
        x.twin().does("read(1, 0)").due("line(0, 4)", 0);
    }

    /** 'READINGS .. are written down, the first 300: DAY, PAGE, READER'. */
    private static void first300Readings() {
        Run x = readingsOf(299, 40);
        x.due("told(4)", 299).due("reading(299, 0)", Check.NONE).does("dusk(2)").due("page(39, 2)", 0).due("page(39, 3)", 0);
        x.does("read(0, 39)").due("told(4)", 300).due("reading(299, 0)", 2).due("reading(299, 1)", 39).due("reading(299, 2)", 0);
        x.due("claim(7, 0, 2)", 0).does("dusk(1)");
        // The 301st is done, but not written down.
        x.due("read(0, 39)", 2).due("told(4)", 300).due("reading(300, 0)", Check.NONE).due("reading(299, 0)", 2).due("page(39, 3)", 1);
        x.due("page(39, 2)", 2).due("knows(0, 7, 1)", 3).due("claim(7, 0, 3)", 1);
        // So it is with the 301st by copying, by granting and in days by draws.
        Run y = readingsOf(300, 39).does("dusk(1)", "request(1, 6, 5)").due("told(4)", 300).due("page(38, 2)", 0);
        y.twin().due("copy(0, 38)", 39).due("told(4)", 300).due("page(38, 2)", 1).due("page(38, 3)", 0).due("claim(6, 0, 1)", 1);
        y.twin().due("grant(1)", 5).due("told(4)", 300).due("page(38, 2)", 1).due("page(38, 3)", 0).due("knows(1, 6, 1)", 1);
        y.twin().does("run(9)").due("told(4)", 300).due("reading(299, 0)", 0);
    }

    /** So many readings today, in a library of so many pages; the last pages are not read. */
    private static Run readingsOf(int readings, int pages) {
        Run x = Run.of("line 1 0;".repeat(16) + "reader copyist 99;reader silent 99;error 0;");
        int[] shade = new int[pages];
        int made = 0;
        for (int p = 16; p < pages; p++) {
            x.does("copy(0, " + (p - 16) % 16 + ")");
            shade[(p - 16) % 16]++;
            made++;
        }
        for (int p = 0; made < readings; p++) {
            for (; shade[p] < 9 && made < readings; shade[p]++) {
                x.does("read(1, " + p + ")");
                made++;
            }
        }
        return x;
    }

    /** 'READINGS (copying too)'; writing and teaching are none. */
    private static void copyingIsReading() {
        Run x = Run.of("line 1 0;reader silent 5;reader copyist 5;reader teacher 5;error 0;").does("copy(1, 0)").due("told(4)", 1);
        x.due("reading(0, 2)", 1).due("reading(0, 1)", 0).does("write(1, 0)").due("told(4)", 1).does("read(2, 1)").due("told(4)", 2);
        x.does("teach(2, 0, 0)").due("told(4)", 2).does("request(0, 0, 1)", "grant(1)").due("told(4)", 3);
        x.does("run(1)").due("told(4)", 6).does("span(9, 9, 0)", "best(9, 0)", "toKnow(1, 7)", "where(0)").due("told(4)", 6);
    }
}
