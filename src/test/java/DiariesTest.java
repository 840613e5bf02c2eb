/** Promises 28 to 33: diaries, the seed, images. */
public final class DiariesTest {
    public static void main(String[] args) {
        noteAndTear();
        judge();
        seed();
        images();
        Check.finish("DiariesTest");
    }

    private static void noteAndTear() {
        DimBooks x = new DimBooks();
        Check.due("P29 none", x.tear(), 0);
        Check.due("P28 -1", x.note(-1), Check.OUTSIDE);
        Check.due("P28 17", x.note(17), Check.OUTSIDE);
        Check.due("P28 none yet", x.told(5), 0);
        for (int i = 1; i <= 60; i++) {
            Check.due("P28 note", x.note(i % 17), i);
        }
        Check.due("P28 full", x.note(0), Check.FULL);
        Check.due("P28 outside ahead of full", x.note(17), Check.OUTSIDE);
        Check.due("P28 sixty", x.told(5), 60);
        Check.due("P29 sixty", x.tear(), 60);
        Check.due("P29 empty", x.told(5), 0);
        Check.due("P28 anew", x.note(16), 1);
    }

    private static void judge() {
        DimBooks x = Check.open("line 1 8;line 2 8;line 3 0;reader silent 2;reader silent 4;");
        Check.due("P30 no diary", x.judge(), Check.NONE);
        x.dusk(10);
        x.read(0, 0);
        x.read(1, 1);
        int[] kept = {3, 3, 2, 2, 1, 1};
        for (int n : kept) {
            x.note(n);
        }
        String before = Check.sight(x);
        Check.due("P30 as it is", x.judge(), Check.NONE);
        Check.same("P30 judging", Check.sight(x), before);
        x.note(2);
        Check.due("P30 the seventh is other", x.judge(), 6);
        x.dusk(1);
        Check.due("P30 from now on: the second is other", x.judge(), 1);
        x.tear();
        x.note(0);
        x.note(0);
        Check.due("P30 the first of two", x.judge(), 0);
    }

    private static void seed() {
        DimBooks x = Check.open("line 1 0;reader copyist 9;error 0;");
        Check.due("P31 at first", x.seed(2147483647), 0);
        Check.due("P31 the greatest", x.seed(5), 2147483647);
        Check.due("P31 -1", x.seed(-1), Check.OUTSIDE);
        Check.due("P31 the least", x.seed(Integer.MIN_VALUE), Check.OUTSIDE);
        Check.due("P31 unchanged", x.seed(2147483647), 5);
        x.copy(0, 0);
        Check.due("P31 one draw on", x.seed(0), (int) ((2147483647L * 1103515245L + 12345L) % 2147483648L));
        Check.due("P31 nought", x.seed(1), 0);
    }

    private static void images() {
        DimBooks x = Check.open("line 4 0;line 5 7;reader copyist 4;reader teacher 9;reader thief 9;error 50;");
        Check.due("P33 not kept", x.goBack(0), Check.NOT);
        Check.due("P33 nor this", x.goBack(1), Check.NOT);
        Check.due("P33 no such", x.goBack(2), Check.UNKNOWN);
        Check.due("P33 -1", x.goBack(-1), Check.UNKNOWN);
        Check.due("P32 no such", x.keep(2), Check.UNKNOWN);
        Check.due("P32 -1", x.keep(-1), Check.UNKNOWN);
        x.seed(9);
        x.copy(0, 0);
        x.read(1, 1);
        x.where(1);
        x.dusk(2);
        Check.due("P32 keep(1)", x.keep(1), 1);
        Check.due("P33 the other is still not kept", x.goBack(0), Check.NOT);
        String early = Check.sight(x);
        x.read(2, 0);
        x.teach(1, 2, 1);
        x.write(0, 0);
        x.where(1);
        x.where(0);
        x.dusk(3);
        x.run(3);
        String late = Check.sight(x);
        Check.due("P32 keep(0)", x.keep(0), 1);
        Check.due("P33 goBack(1)", x.goBack(1), 1);
        Check.same("P33 all is as it was", Check.sight(x), early);
        Check.due("P33 goBack(0)", x.goBack(0), 1);
        Check.same("P33 and as it became", Check.sight(x), late);
        x.goBack(1);
        x.read(1, 0);
        x.copy(0, 0);
        x.dusk(50);
        Check.due("P33 an image stays", x.goBack(1), 1);
        Check.same("P33 an image is not changed by what is done later", Check.sight(x), early);

        // Two images that went apart: each has its own readings.
        x.keep(0);
        x.dusk(1);
        x.read(0, 0);
        x.read(1, 0);
        x.keep(1);
        String one = Check.sight(x);
        x.goBack(0);
        x.dusk(2);
        x.copy(0, 2);
        x.read(2, 0);
        String other = Check.sight(x);
        x.keep(0);
        x.goBack(1);
        Check.same("P33 the one", Check.sight(x), one);
        x.goBack(0);
        Check.same("P33 the other", Check.sight(x), other);

        // Requests, the diary and the text are not of an image.
        x.request(0, 0, 7);
        x.note(3);
        x.feed(2, 0L);
        x.goBack(1);
        Check.due("P33 requests stay", x.told(3), 1);
        Check.due("P33 the diary stays", x.told(5), 1);
        Check.due("P33 the text stays", x.told(6), 2);
        x.dusk(1);
        x.keep(1);
        int day = x.told(7);
        x.dusk(9);
        x.goBack(1);
        Check.due("P32 kept anew", x.told(7), day);
    }
}
