/** What all tests share: feeding a text, comparing answers, the exit code. */
final class Check {
    static final int NONE = -1;
    static final int UNKNOWN = -1000000001;
    static final int OUTSIDE = -1000000002;
    static final int NOT = -1000000003;
    static final int FULL = -1000000004;

    private static int asked = 0;
    private static int wrong = 0;

    private Check() {
    }

    static void due(String what, int got, int want) {
        asked++;
        if (got != want) {
            wrong++;
            System.out.println(what + " answered " + got + ", due is " + want);
        }
    }

    /** As README.md tells it, word by word. */
    static void feed(DimBooks x, String text) {
        for (int i = 0; i < text.length(); i += 8) {
            int n = Math.min(8, text.length() - i);
            long bytes = 0;
            for (int k = 0; k < n; k++) {
                bytes = bytes << 8 | text.charAt(i + k) & 255;
            }
            x.feed(n, bytes);
        }
    }

    static long pack(String part) {
        long bytes = 0;
        for (int k = 0; k < part.length(); k++) {
            bytes = bytes << 8 | part.charAt(k) & 255;
        }
        return bytes;
    }

    /** A new object with this library; the text must be sound. */
    static DimBooks open(String text) {
        DimBooks x = new DimBooks();
        feed(x, text);
        if (x.library() < 0) {
            wrong++;
            System.out.println("a sound text was refused at " + x.fault() + ": " + text);
        }
        return x;
    }

    /** All that the face lets one see, to show that a refusal changed nothing. */
    static String sight(DimBooks x) {
        StringBuilder all = new StringBuilder();
        for (int what = 0; what < 10; what++) {
            all.append(x.told(what)).append(' ');
        }
        all.append(x.fault()).append(' ').append(x.judge());
        for (int l = 0; l < x.told(0); l++) {
            for (int what = 0; what < 6; what++) {
                all.append(' ').append(x.line(l, what));
            }
            for (int r = 0; r < x.told(1); r++) {
                all.append(' ').append(x.knows(r, l, 0)).append(' ').append(x.knows(r, l, 1));
            }
        }
        for (int r = 0; r < x.told(1); r++) {
            for (int what = 0; what < 3; what++) {
                all.append(' ').append(x.reader(r, what));
            }
        }
        for (int p = 0; p < x.told(2); p++) {
            for (int what = 0; what < 4; what++) {
                all.append(' ').append(x.page(p, what));
            }
        }
        for (int i = 0; i < x.told(4); i++) {
            all.append(' ').append(x.reading(i, 0)).append(' ').append(x.reading(i, 1)).append(' ').append(x.reading(i, 2));
        }
        int seed = x.seed(0);
        x.seed(seed);
        return all.append(' ').append(seed).append(' ').append(x.best(3, 0)).append(' ').append(x.best(3, 1)).toString();
    }

    static void same(String what, String got, String want) {
        asked++;
        if (!got.equals(want)) {
            wrong++;
            System.out.println(what + ": something changed\n  was " + want + "\n  is  " + got);
        }
    }

    static void finish(String name) {
        System.out.println(name + ": " + asked + " answers, " + wrong + " wrong");
        if (wrong != 0 || asked == 0) {
            System.exit(1);
        }
    }
}
