/** Promises 11 to 17: acts. */
public final class ActsTest {
    public static void main(String[] args) {
        read();
        copy();
        write();
        teach();
        dusk();
        lastDay();
        run();
        where();
        Check.finish("ActsTest");
    }

    private static void refused(DimBooks x, String what, int got, int want, String before) {
        Check.due(what, got, want);
        Check.same(what, Check.sight(x), before);
    }

    private static void read() {
        DimBooks x = Check.open("line 1 7;line 2 0;line 3 9;reader silent 5;reader aloud 6;reader thief 7;");
        Check.due("P11 silent", x.read(0, 0), 8);
        Check.due("P11 who knows", x.line(0, 3), 1);
        Check.due("P11 to the end", x.read(0, 0), 9);
        Check.due("P11 aloud", x.read(1, 1), 1);
        Check.due("P11 all know", x.line(1, 3), 7);
        Check.due("P11 thief", x.read(2, 1), 9);
        Check.due("P11 thief knows anew", x.knows(2, 1, 1), 0);
        String before = Check.sight(x);
        refused(x, "P11 gone", x.read(0, 0), Check.NOT, before);
        refused(x, "P11 stolen", x.read(0, 1), Check.NOT, before);
        refused(x, "P11 gone at first", x.read(0, 2), Check.NOT, before);
        refused(x, "P11 no such page", x.read(0, 3), Check.UNKNOWN, before);
        refused(x, "P11 page -1", x.read(0, -1), Check.UNKNOWN, before);
        refused(x, "P11 no such reader", x.read(3, 0), Check.UNKNOWN, before);
        refused(x, "P11 reader -1", x.read(-1, 0), Check.UNKNOWN, before);
    }

    private static void copy() {
        DimBooks x = Check.open("line 1 7;line 2 0;reader copyist 5;reader silent 6;error 0;");
        Check.due("P12 a copy", x.copy(0, 0), 2);
        Check.due("P12 the page is read", x.page(0, 2), 8);
        Check.due("P12 the copyist knows", x.knows(0, 0, 0), 0);
        Check.due("P12 line", x.page(2, 0), 0);
        Check.due("P12 shade", x.page(2, 2), 0);
        // Without an error too there was a draw: 0 * .. + 12345.
        Check.due("P12 a draw", x.seed(12345), 12345);
        Check.due("P12 the last copy of it", x.copy(0, 0), 3);
        String before = Check.sight(x);
        refused(x, "P12 gone", x.copy(0, 0), Check.NOT, before);
        refused(x, "P12 no copyist", x.copy(1, 1), Check.NOT, before);
        refused(x, "P12 no such page", x.copy(1, 4), Check.UNKNOWN, before);
        refused(x, "P12 no such reader", x.copy(2, 0), Check.UNKNOWN, before);
        refused(x, "P12 page -1", x.copy(0, -1), Check.UNKNOWN, before);
        refused(x, "P12 reader -1", x.copy(-1, 0), Check.UNKNOWN, before);

        // Seeds whose next draws of 100 are known: from 0 it is 12345 / 65536 = 0.
        DimBooks y = Check.open("line 1 0;reader copyist 5;error 1;");
        Check.due("P12 draw 0 is below 1", y.copy(0, 0), 1);
        Check.due("P12 so an error", y.page(1, 1), 2);
        int next = (int) ((12345L * 1103515245L + 12345L) % 2147483648L);
        Check.due("P12 the draw of it is not", y.copy(0, 0), 2);
        Check.due("P12 that draw", next / 65536 % 100 == 0 ? 1 : 0, 0);
        Check.due("P12 no error", y.page(2, 1), 0);
        Check.due("P12 the seed", y.seed(0), next);
        y.copy(0, 1);
        Check.due("P12 an error again", y.page(3, 1), 4);
        y.seed(12345);
        y.copy(0, 1);
        Check.due("P12 an error is copied on", y.page(4, 1), 2);

        for (int seed = 0; seed < 2000000000; seed += 9000001) {
            drawDue(seed);
        }
        shadeOfCopies();

        DimBooks z = Check.open("line 1 0;line 1 9;reader copyist 5;reader silent 5;error 0;");
        z.copy(0, 0);
        for (int p = 3; p < 40; p++) {
            Check.due("P12 copies", z.copy(0, p - 1), p);
        }
        String full = Check.sight(z);
        refused(z, "P12 full", z.copy(0, 39), Check.FULL, full);
        refused(z, "P12 gone ahead of full", z.copy(0, 1), Check.NOT, full);
        refused(z, "P12 no copyist ahead of full", z.copy(1, 39), Check.NOT, full);
    }

    /** The draw of 100 is below E, or it is E: an error, or none. */
    private static void drawDue(int seed) {
        long next = (seed * 1103515245L + 12345L) % 2147483648L;
        int drawn = (int) (next / 65536 % 100);
        for (int e = drawn; e <= drawn + 1; e++) {
            DimBooks x = Check.open("line 1 0;reader copyist 5;error " + e + ";");
            x.seed(seed);
            x.copy(0, 0);
            Check.due("P12 draw " + drawn + " and E " + e, x.page(1, 1), e > drawn ? 2 : 0);
            x.seed(seed);
            x.write(0, 0);
            Check.due("P13 draw " + drawn + " and E " + e, x.page(2, 1), e > drawn ? 3 : 0);
        }
    }

    /** A page that comes where another one was, ahead of going back, has nothing of it. */
    private static void shadeOfCopies() {
        DimBooks x = Check.open("line 1 0;reader copyist 5;reader thief 6;error 0;");
        x.keep(0);
        x.copy(0, 0);
        x.read(1, 1);
        x.goBack(0);
        Check.due("P12 the number again", x.copy(0, 0), 1);
        Check.due("P12 its shade", x.page(1, 2), 0);
        x.read(1, 1);
        x.goBack(0);
        x.read(0, 0);
        Check.due("P13 the number again", x.write(0, 0), 1);
        Check.due("P13 its shade", x.page(1, 2), 0);
    }

    private static void write() {
        DimBooks x = Check.open("line 1 7;line 2 0;reader copyist 5;reader silent 6;reader copyist 2;error 0;");
        String before = Check.sight(x);
        refused(x, "P13 not known", x.write(0, 0), Check.NOT, before);
        x.read(0, 0);
        x.read(1, 0);
        x.read(2, 1);
        x.dusk(1);
        int readings = x.told(4);
        Check.due("P13 written", x.write(0, 0), 2);
        Check.due("P13 line", x.page(2, 0), 0);
        Check.due("P13 variant", x.page(2, 1), 0);
        Check.due("P13 shade", x.page(2, 2), 0);
        Check.due("P13 no reading", x.told(4), readings);
        Check.due("P13 he does not know it anew", x.knows(0, 0, 1), 0);
        Check.due("P13 a draw", x.seed(0), 12345);
        before = Check.sight(x);
        refused(x, "P13 no copyist", x.write(1, 0), Check.NOT, before);
        refused(x, "P13 not that line", x.write(0, 1), Check.NOT, before);
        refused(x, "P13 no such line", x.write(0, 2), Check.UNKNOWN, before);
        refused(x, "P13 line -1", x.write(1, -1), Check.UNKNOWN, before);
        refused(x, "P13 no such reader", x.write(3, 0), Check.UNKNOWN, before);
        refused(x, "P13 reader -1", x.write(-1, 0), Check.UNKNOWN, before);
        x.dusk(1);
        before = Check.sight(x);
        refused(x, "P13 forgotten", x.write(2, 1), Check.NOT, before);

        DimBooks y = Check.open("line 1 0;reader copyist 5;reader silent 1;error 100;");
        y.copy(0, 0);
        Check.due("P13 with an error", y.write(0, 0), 2);
        Check.due("P13 the error", y.page(2, 1), 3);
        Check.due("P13 he knows it as he did", y.knows(0, 0, 0), 0);
        for (int p = 3; p < 40; p++) {
            Check.due("P13 pages", y.write(0, 0), p);
        }
        String full = Check.sight(y);
        refused(y, "P13 full", y.write(0, 0), Check.FULL, full);
        refused(y, "P13 no copyist ahead of full", y.write(1, 0), Check.NOT, full);
        refused(y, "P13 unknown ahead of full", y.write(0, 1), Check.UNKNOWN, full);

        DimBooks z = Check.open("line 1 0;reader copyist 5;error 100;");
        z.copy(0, 0);
        z.read(0, 1);
        z.seed(0);
        Check.due("P13 knowing an error", z.knows(0, 0, 0), 2);
        Check.due("P13 another error", z.write(0, 0), 2);
        Check.due("P13 its number", z.page(2, 1), 3);
    }

    private static void teach() {
        DimBooks x = Check.open("line 1 0;line 2 0;reader teacher 4;reader silent 3;reader copyist 50;error 100;");
        String before = Check.sight(x);
        refused(x, "P14 not known", x.teach(0, 1, 0), Check.NOT, before);
        x.copy(2, 0);
        x.read(0, 2);
        x.read(1, 0);
        x.dusk(2);
        Check.due("P14 taught", x.teach(0, 1, 0), 3);
        Check.due("P14 the other knows it so", x.knows(1, 0, 0), 3);
        Check.due("P14 from then on", x.knows(1, 0, 1), 2);
        Check.due("P14 he himself anew", x.knows(0, 0, 1), 2);
        Check.due("P14 nobody else", x.knows(2, 0, 0), 0);
        before = Check.sight(x);
        refused(x, "P14 one twice", x.teach(0, 0, 0), Check.UNKNOWN, before);
        refused(x, "P14 one twice, no teacher", x.teach(1, 1, 0), Check.UNKNOWN, before);
        refused(x, "P14 no teacher", x.teach(2, 0, 0), Check.NOT, before);
        refused(x, "P14 no such reader", x.teach(0, 3, 0), Check.UNKNOWN, before);
        refused(x, "P14 nor such", x.teach(3, 0, 0), Check.UNKNOWN, before);
        refused(x, "P14 reader -1", x.teach(-1, 0, 0), Check.UNKNOWN, before);
        refused(x, "P14 pupil -1", x.teach(0, -1, 0), Check.UNKNOWN, before);
        refused(x, "P14 no such line", x.teach(0, 1, 2), Check.UNKNOWN, before);
        refused(x, "P14 line -1", x.teach(0, 1, -1), Check.UNKNOWN, before);
        x.dusk(3);
        Check.due("P14 still known", x.teach(0, 1, 0), 3);
        x.dusk(4);
        before = Check.sight(x);
        refused(x, "P14 forgotten", x.teach(0, 1, 0), Check.NOT, before);
    }

    private static void dusk() {
        DimBooks x = Check.open("line 1 8;reader silent 99;reader teacher 1;reader aloud 50;");
        x.read(2, 0);
        Check.due("P15 dusk(1)", x.dusk(1), 1);
        Check.due("P15 forgets behind one day", x.line(0, 3), 5);
        Check.due("P15 dusk(48)", x.dusk(48), 49);
        Check.due("P15 not yet", x.line(0, 3), 5);
        Check.due("P15 dusk(1)", x.dusk(1), 50);
        Check.due("P15 behind 50", x.line(0, 3), 1);
        Check.due("P15 dusk(48)", x.dusk(48), 98);
        Check.due("P15 not yet", x.line(0, 3), 1);
        Check.due("P15 dusk(200)", x.dusk(200), 298);
        Check.due("P15 all forgot", x.line(0, 3), 0);
        String before = Check.sight(x);
        refused(x, "P15 dusk(0)", x.dusk(0), Check.OUTSIDE, before);
        refused(x, "P15 dusk(201)", x.dusk(201), Check.OUTSIDE, before);
        refused(x, "P15 dusk(-1)", x.dusk(-1), Check.OUTSIDE, before);
    }

    private static DimBooks late(String text, int day) {
        DimBooks x = Check.open(text);
        while (x.told(7) + 200 <= day) {
            x.dusk(200);
        }
        if (x.told(7) < day) {
            x.dusk(day - x.told(7));
        }
        return x;
    }

    private static void lastDay() {
        DimBooks x = late("line 5 8;line 6 0;reader silent 3;", 9998);
        x.read(0, 0);
        Check.due("P15 to the last day", x.dusk(200), 9999);
        Check.due("P15 one day has gone by", x.knows(0, 0, 0), 0);
        Check.due("P15 no day behind it", x.dusk(7), 9999);
        Check.due("P15 so nothing more is forgotten", x.knows(0, 0, 0), 0);
        x.note(2);
        x.note(2);
        x.note(2);
        x.note(2);
        x.note(2);
        Check.due("P30 the diary knows no further day", x.judge(), Check.NONE);
        Check.due("P21 nor does the best", x.best(200, 1), 11);
        int seed = x.seed(0);
        x.seed(seed);
        Check.due("P16 no day by draws", x.run(5), 1);
        Check.due("P16 no draw", x.seed(seed), seed);
        Check.due("P27 nor in a span", x.span(100, 3, 0), 2);

        DimBooks y = late("line 5 0;reader silent 3;reader silent 3;", 9997);
        Check.due("P16 two days", y.run(100), 0);
        Check.due("P16 four readings", y.page(0, 2), 4);
        Check.due("P16 the last day", y.told(7), 9999);
    }

    private static void run() {
        DimBooks x = Check.open("line 1 0;line 2 7;line 3 9;reader silent 2;reader thief 3;reader aloud 9;error 0;");
        x.seed(42);
        long seed = 42;
        int[] shade = {0, 7, 9};
        int readings = 0;
        for (int d = 0; d < 4; d++) {
            for (int r = 0; r < 3; r++) {
                seed = (seed * 1103515245L + 12345L) % 2147483648L;
                int p = (int) (seed / 65536 % 3);
                if (shade[p] < 9) {
                    shade[p] = r == 1 ? 9 : shade[p] + 1;
                    readings++;
                }
            }
        }
        int gone = (shade[0] == 9 ? 1 : 0) + (shade[1] == 9 ? 1 : 0) + 1;
        Check.due("P16 run(4)", x.run(4), gone);
        Check.due("P16 shade 0", x.page(0, 2), shade[0]);
        Check.due("P16 shade 1", x.page(1, 2), shade[1]);
        Check.due("P16 readings", x.told(4), readings);
        Check.due("P16 day", x.told(7), 4);
        Check.due("P16 first reading's day", x.reading(0, 0), 0);
        Check.due("P16 seed", x.seed(0), (int) seed);
        String before = Check.sight(x);
        refused(x, "P16 run(0)", x.run(0), Check.OUTSIDE, before);
        refused(x, "P16 run(101)", x.run(101), Check.OUTSIDE, before);
        refused(x, "P16 run(-1)", x.run(-1), Check.OUTSIDE, before);
        Check.due("P16 run(100)", x.run(100), 3);

        DimBooks y = Check.open("line 1 0;line 1 9;");
        Check.due("P16 without readers", y.run(7), 1);
        Check.due("P16 days go by", y.told(7), 7);
        DimBooks z = Check.open("reader silent 3;");
        String none = Check.sight(z);
        refused(z, "P16 no pages", z.run(7), Check.NOT, none);
        refused(z, "P16 outside ahead of it", z.run(101), Check.OUTSIDE, none);
    }

    private static void where() {
        DimBooks x = Check.open("line 1 8;line 2 0;reader copyist 3;reader thief 3;error 0;");
        DimBooks y = Check.open("line 1 0;");
        Check.due("P17 page 0", y.where(0), 0);
        x.read(0, 0);
        x.write(0, 0);
        x.write(0, 0);
        Check.due("P17 the least that is not gone", x.where(0), 2);
        x.read(0, 2);
        Check.due("P17 the least, not the darkest", x.where(0), 2);
        Check.due("P17 it pales", x.line(0, 5), 2);
        Check.due("P17 it reads no page", x.page(2, 2), 1);
        x.read(1, 2);
        Check.due("P17 the next", x.where(0), 3);
        x.read(1, 3);
        Check.due("P17 all are gone", x.where(0), Check.NONE);
        Check.due("P17 a look all the same", x.line(0, 5), 4);
        for (int i = 5; i <= 9; i++) {
            Check.due("P17 looks", x.where(0), Check.NONE);
        }
        String before = Check.sight(x);
        refused(x, "P17 entry gone", x.where(0), Check.NOT, before);
        refused(x, "P17 no such line", x.where(2), Check.UNKNOWN, before);
        refused(x, "P17 line -1", x.where(-1), Check.UNKNOWN, before);
        Check.due("P17 another entry", x.where(1), 1);
    }
}
