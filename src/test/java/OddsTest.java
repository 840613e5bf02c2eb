/** Promises 23 to 27: odds and claims. */
public final class OddsTest {
    public static void main(String[] args) {
        life();
        right();
        claim();
        whence();
        span();
        Check.finish("OddsTest");
    }

    private static void life() {
        DimBooks x = new DimBooks();
        Check.due("P23 now", x.life(0, 5, 0), 1000000000);
        Check.due("P23 gone now", x.life(9, 99, 0), 0);
        Check.due("P23 gone stays gone", x.life(9, 99, 200), 0);
        Check.due("P23 one page, eight days", x.life(0, 1, 8), 1000000000);
        Check.due("P23 one page, nine days", x.life(0, 1, 9), 0);
        // Of 3 the read part is cut: 333333333, so what is left is 666666667, then 444444445, then 296296297.
        Check.due("P23 thirds, a day", x.life(8, 3, 1), 666666667);
        Check.due("P23 thirds, two days", x.life(8, 3, 2), 444444445);
        Check.due("P23 thirds, three days", x.life(8, 3, 3), 296296297);
        Check.due("P23 from 7", x.life(7, 2, 2), 750000000);
        Check.due("P23 from 6", x.life(6, 2, 3), 875000000);
        Check.due("P23 the ends", x.life(0, 99, 200), lifeByLongs(0, 99, 200));
        Check.due("P23 the middle", x.life(4, 13, 77), lifeByLongs(4, 13, 77));
        Check.due("P23 s -1", x.life(-1, 1, 0), Check.OUTSIDE);
        Check.due("P23 s 10", x.life(10, 1, 0), Check.OUTSIDE);
        Check.due("P23 m 0", x.life(0, 0, 0), Check.OUTSIDE);
        Check.due("P23 m 100", x.life(0, 100, 0), Check.OUTSIDE);
        Check.due("P23 n -1", x.life(0, 1, -1), Check.OUTSIDE);
        Check.due("P23 n 201", x.life(0, 1, 201), Check.OUTSIDE);
    }

    private static int lifeByLongs(int s, int m, int n) {
        long[] odds = new long[10];
        odds[s] = 1000000000L;
        for (int d = 0; d < n; d++) {
            long[] next = new long[10];
            next[9] = odds[9];
            for (int shade = 0; shade < 9; shade++) {
                next[shade + 1] += odds[shade] / m;
                next[shade] += odds[shade] - odds[shade] / m;
            }
            odds = next;
        }
        return (int) (1000000000L - odds[9]);
    }

    private static void right() {
        DimBooks x = new DimBooks();
        Check.due("P24 untold E is 10", x.right(1), 900000);
        Check.due("P24 both", x.right(2), 810000);
        Check.due("P24 two or three", x.right(3), 972000);
        Check.due("P24 c 0", x.right(0), Check.OUTSIDE);
        Check.due("P24 c 41", x.right(41), Check.OUTSIDE);
        Check.due("P24 c -1", x.right(-1), Check.OUTSIDE);
        int[] errors = {0, 1, 33, 50, 67, 99, 100};
        for (int e : errors) {
            DimBooks y = Check.open("error " + e + ";");
            for (int c = 1; c <= 40; c++) {
                Check.due("P24 E " + e + " right(" + c + ")", y.right(c), rightByTable(e, c));
            }
        }
    }

    private static int rightByTable(int e, int c) {
        long[][] odds = new long[c + 1][c + 2];
        odds[0][0] = 1000000;
        for (int i = 0; i < c; i++) {
            for (int k = 0; k <= i; k++) {
                long wrong = odds[i][k] * e / 100;
                odds[i + 1][k] += wrong;
                odds[i + 1][k + 1] += odds[i][k] - wrong;
            }
        }
        long sum = 0;
        for (int k = 0; k <= c; k++) {
            sum += 2 * k > c ? odds[c][k] : 0;
        }
        return (int) sum;
    }

    private static void claim() {
        DimBooks x = Check.open("line 1 0;line 2 0;reader copyist 9;reader silent 9;error 100;");
        Check.due("P25 nobody read", x.claim(0, 0, 0), 1);
        x.read(1, 0);
        Check.due("P25 no copyist read", x.claim(0, 0, 0), 1);
        x.read(0, 0);
        Check.due("P25 a copyist read it", x.claim(0, 0, 0), 0);
        Check.due("P25 with any error", x.claim(0, 99, 0), 0);
        Check.due("P25 not that line", x.claim(1, 1, 0), 1);
        Check.due("P25 not that day", x.claim(0, 0, 1), 1);
        x.dusk(3);
        x.copy(0, 0);
        Check.due("P25 copying is reading", x.claim(0, 0, 3), 0);
        x.dusk(1);
        x.read(0, 2);
        Check.due("P25 an error's page, true", x.claim(0, 0, 4), 1);
        Check.due("P25 an error's page, that error", x.claim(0, 3, 4), 0);
        Check.due("P25 another error", x.claim(0, 1, 4), 0);
        x.read(1, 0);
        Check.due("P25 a true page by no copyist", x.claim(0, 0, 4), 1);
        x.read(0, 1);
        Check.due("P25 a true page of another line", x.claim(0, 0, 4), 1);
        x.write(0, 0);
        Check.due("P25 writing is no reading", x.claim(0, 0, 4), 1);
        x.dusk(1);
        x.request(0, 1, 4);
        x.grant(1);
        Check.due("P25 a reading that was granted", x.claim(1, 0, 5), 0);
        Check.due("P25 the last day", x.claim(1, 0, 9999), 1);
        Check.due("P25 line 2", x.claim(2, 0, 0), Check.UNKNOWN);
        Check.due("P25 line -1", x.claim(-1, 100, 0), Check.UNKNOWN);
        Check.due("P25 variant 100", x.claim(0, 100, 0), Check.OUTSIDE);
        Check.due("P25 variant -1", x.claim(0, -1, 0), Check.OUTSIDE);
        Check.due("P25 day -1", x.claim(0, 0, -1), Check.OUTSIDE);
        Check.due("P25 day 10000", x.claim(0, 0, 10000), Check.OUTSIDE);

        DimBooks z = Check.open("line 1 0;reader copyist 9;");
        z.read(0, 0);
        Check.due("P25 the first reading of all", z.claim(0, 0, 0), 0);

        // What is read beyond the 300 readings proves nothing.
        DimBooks y = Check.open("line 1 0;reader copyist 99;reader silent 9;error 0;");
        for (int p = 0; y.told(4) < 300; p++) {
            y.copy(0, p);
            for (int i = 0; i < 8 && y.told(4) < 300; i++) {
                y.read(1, p);
            }
        }
        y.dusk(1);
        int fresh = y.write(0, 0);
        Check.due("P25 read", y.read(0, fresh), 1);
        Check.due("P25 but not written down", y.claim(0, 0, 1), 1);
    }

    private static void whence() {
        DimBooks x = Check.open("line 1 0;line 2 0;reader silent 9;reader copyist 9;reader copyist 9;error 100;");
        x.copy(2, 0);
        x.copy(1, 1);
        Check.due("P26 the second copyist", x.whence(0, 3), 4);
        Check.due("P26 the first", x.whence(1, 4), 2);
        Check.due("P26 of another line", x.whence(1, 3), 0);
        Check.due("P26 nowhere", x.whence(0, 5), 0);
        Check.due("P26 true", x.whence(0, 0), 0);
        Check.due("P26 99", x.whence(0, 99), 0);
        x.read(1, 2);
        Check.due("P26 an error of an error", x.write(1, 0), 4);
        Check.due("P26 is his who wrote it", x.whence(0, 5), 2);
        Check.due("P26 line 2", x.whence(2, 0), Check.UNKNOWN);
        Check.due("P26 line -1", x.whence(-1, 100), Check.UNKNOWN);
        Check.due("P26 variant 100", x.whence(0, 100), Check.OUTSIDE);
        Check.due("P26 variant -1", x.whence(0, -1), Check.OUTSIDE);

        // With error 1, seed 0 draws 0 (an error) and seed 12345 draws one that is not below 1.
        DimBooks y = Check.open("line 1 0;reader copyist 9;reader copyist 9;reader thief 9;error 1;");
        y.copy(1, 0);
        y.seed(12345);
        y.copy(0, 1);
        Check.due("P26 the copy has the same error", y.page(2, 1), 2);
        Check.due("P26 but the first wrote it first", y.whence(0, 2), 2);
        y.read(2, 1);
        Check.due("P26 though that page is gone", y.whence(0, 2), 2);
        y.seed(12345);
        y.copy(0, 0);
        Check.due("P26 a true copy", y.page(3, 1), 0);
        Check.due("P26 true", y.whence(0, 0), 0);
        whenceByImages();
    }

    private static void whenceByImages() {
        DimBooks x = Check.open("line 1 0;reader copyist 9;reader copyist 9;error 100;");
        x.keep(0);
        x.copy(0, 0);
        x.keep(1);
        x.goBack(0);
        Check.due("P26 nowhere yet", x.whence(0, 2), 0);
        x.copy(1, 0);
        Check.due("P26 the other's now", x.whence(0, 2), 2);
        x.goBack(1);
        Check.due("P26 the one's again", x.whence(0, 2), 1);
    }

    private static void span() {
        DimBooks x = Check.open("line 1 3;line 1 5;line 1 7;line 1 8;reader silent 2;reader thief 1;reader aloud 3;");
        x.read(0, 0);
        x.where(1);
        x.seed(4711);
        x.note(3);
        String before = Check.sight(x);
        int least = 99;
        int greatest = -1;
        int[] kept = new int[20];
        // The same by hand: go back each time, but keep the seed as it has become.
        x.keep(0);
        int seed = 4711;
        for (int i = 0; i < 20; i++) {
            x.goBack(0);
            x.seed(seed);
            x.run(3);
            kept[i] = x.told(9);
            seed = x.seed(0);
        }
        x.goBack(0);
        for (int k = 1; k <= 20; k++) {
            least = Math.min(least, kept[k - 1]);
            greatest = Math.max(greatest, kept[k - 1]);
            Check.due("P27 least of " + k, x.span(3, k, 0), least);
            Check.due("P27 greatest of " + k, x.span(3, k, 1), greatest);
        }
        Check.due("P27 they differ", least < greatest ? 1 : 0, 1);
        Check.same("P27 a span", Check.sight(x), before);
        Check.due("P27 n 0", x.span(0, 1, 0), Check.OUTSIDE);
        Check.due("P27 n 101", x.span(101, 1, 0), Check.OUTSIDE);
        Check.due("P27 k 0", x.span(1, 0, 0), Check.OUTSIDE);
        Check.due("P27 k 21", x.span(1, 21, 0), Check.OUTSIDE);
        Check.due("P27 what 2", x.span(1, 1, 2), Check.OUTSIDE);
        Check.due("P27 what -1", x.span(1, 1, -1), Check.OUTSIDE);
        Check.due("P27 the ends", x.span(100, 20, 1), 0);
        DimBooks y = Check.open("reader silent 3;");
        Check.due("P27 no pages", y.span(1, 1, 0), Check.NOT);
        Check.due("P27 outside ahead of it", y.span(1, 1, 5), Check.OUTSIDE);
    }
}
