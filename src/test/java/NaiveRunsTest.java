import java.util.Random;

/** All promises: runs of 512 calls on new objects, each answer held against the naive one. Every run is the same each time. */
public final class NaiveRunsTest {
    private static final String[] KINDS = {"silent", "aloud", "copyist", "thief", "teacher"};
    private static final String SIGNS = "line reader error;;  0123456789 silent aloud";

    private final Random dice;
    private final DimBooks x = new DimBooks();
    private final Naive y = new Naive();
    private final int number;

    private NaiveRunsTest(int number) {
        this.number = number;
        dice = new Random(number);
    }

    public static void main(String[] args) {
        int runs = args.length > 0 ? Integer.parseInt(args[0]) : 1500;
        for (int i = 0; i < runs; i++) {
            new NaiveRunsTest(i).go();
        }
        Check.finish("NaiveRunsTest");
    }

    private int below(int n) {
        return dice.nextInt(n);
    }

    private boolean rarely() {
        return below(40) == 0;
    }

    /** Mostly one of 0 .. count - 1, now and then one that is not. */
    private int pick(int count) {
        if (count > 0 && !rarely()) {
            return below(count);
        }
        int[] odd = {-1, count, count + 1, Integer.MAX_VALUE, Integer.MIN_VALUE, below(100) - 50};
        return odd[below(odd.length)];
    }

    private int within(int least, int most) {
        if (!rarely()) {
            return least + below(most - least + 1);
        }
        int[] odd = {least - 1, most + 1, least, most, Integer.MAX_VALUE, Integer.MIN_VALUE};
        return odd[below(odd.length)];
    }

    private int set(int count) {
        return rarely() ? dice.nextInt() : count == 0 ? 0 : below(1 << count);
    }

    private void due(String call, int got, int want) {
        Check.due("run " + number + " " + call, got, want);
    }

    private String blanks() {
        return below(6) == 0 ? " ".repeat(below(3)) : "";
    }

    private String clause() {
        String b = blanks();
        int odd = below(60);
        switch (below(9)) {
            case 0: case 1: case 2: case 3:
                return b + "line" + (odd == 0 ? "" : " ") + within(0, 99) + " " + (below(3) == 0 ? within(5, 9) : within(0, 9)) + b + ";";
            case 4: case 5: case 6: case 7:
                return b + "reader " + KINDS[below(5)] + " " + (below(2) == 0 ? within(1, 5) : within(1, 99)) + b + ";";
            default:
                return rarely() ? b + "error " + within(0, 100) + ";" : "";
        }
    }

    private String text() {
        StringBuilder t = new StringBuilder();
        int clauses = below(4) == 0 ? below(32) : 3 + below(10);
        for (int i = 0; i < clauses; i++) {
            t.append(clause());
        }
        if (below(3) == 0) {
            t.append("error ").append(below(2) == 0 ? 100 * below(2) : below(101)).append(";");
        }
        if (t.length() > 0 && below(8) == 0) {
            int at = below(t.length());
            switch (below(3)) {
                case 0: t.setLength(at); break;
                case 1: t.deleteCharAt(at); break;
                default: t.setCharAt(at, below(9) == 0 ? (char) below(256) : SIGNS.charAt(below(SIGNS.length())));
            }
        }
        return t.toString();
    }

    private int fed(int left) {
        String text = text();
        int calls = 0;
        for (int i = 0; i < text.length() && calls < left - 2; i += 8) {
            String part = text.substring(i, Math.min(text.length(), i + 8));
            long bytes = Check.pack(part);
            due("feed", x.feed(part.length(), bytes), y.feed(part.length(), bytes));
            calls++;
        }
        due("library() of [" + text + "]", x.library(), y.library());
        due("fault() of [" + text + "]", x.fault(), y.fault());
        return calls + 2;
    }

    private void go() {
        int calls = fed(512);
        // Some runs begin late, so that the last day is met.
        for (int i = below(15) == 0 ? 49 : 0; i > 0; i--) {
            due("dusk(200)", x.dusk(200), y.dusk(200));
            calls++;
        }
        // Some runs ask best, some do without; dusk and run are rare in some, so that pages or hearts last.
        int haste = 1 + below(20);
        int newTexts = below(5) == 0 ? 60 : 500;
        while (calls < 512) {
            if (below(newTexts) == 0 && calls < 400) {
                calls += fed(512 - calls);
            } else if (below(3) == 0) {
                look();
                calls++;
            } else {
                act(haste);
                calls++;
            }
        }
    }

    private void look() {
        int l = pick(y.told(0));
        int r = pick(y.told(1));
        int p = pick(y.told(2));
        int what;
        switch (below(6)) {
            case 0: what = within(0, 9); due("told(" + what + ")", x.told(what), y.told(what)); break;
            case 1: what = within(0, 5); due("line(" + l + ", " + what + ")", x.line(l, what), y.line(l, what)); break;
            case 2: what = within(0, 2); due("reader", x.reader(r, what), y.reader(r, what)); break;
            case 3: what = within(0, 3); due("page(" + p + ", " + what + ")", x.page(p, what), y.page(p, what)); break;
            case 4: what = within(0, 1); due("knows", x.knows(r, l, what), y.knows(r, l, what)); break;
            default: what = within(0, 2);
                int i = pick(y.told(4));
                due("reading", x.reading(i, what), y.reading(i, what));
        }
    }

    private void act(int haste) {
        switch (below(5)) {
            case 0: case 1: actOnPages(haste); break;
            case 2: request(); break;
            case 3: odds(); break;
            default: diary(); break;
        }
    }

    private void actOnPages(int haste) {
        int l = pick(y.told(0));
        int r = pick(y.told(1));
        int p = pick(y.told(2));
        int n;
        switch (below(4) != 0 ? below(5) : 5 + below(2)) {
            case 0: due("read(" + r + ", " + p + ")", x.read(r, p), y.read(r, p)); break;
            case 1: due("copy(" + r + ", " + p + ")", x.copy(r, p), y.copy(r, p)); break;
            case 2: due("write(" + r + ", " + l + ")", x.write(r, l), y.write(r, l)); break;
            case 3: n = pick(y.told(1)); due("teach", x.teach(r, n, l), y.teach(r, n, l)); break;
            case 4: due("where", x.where(l), y.where(l)); break;
            case 5: n = below(haste) == 0 ? within(1, 200) : within(1, 2); due("dusk(" + n + ")", x.dusk(n), y.dusk(n)); break;
            default: n = below(haste) == 0 ? within(1, 100) : within(1, 2);
                if (below(haste) == 0) {
                    due("run(" + n + ")", x.run(n), y.run(n));
                }
        }
    }

    private void request() {
        int l = pick(y.told(0));
        int r = pick(y.told(1));
        int w;
        int what;
        switch (below(7)) {
            case 0: case 1: case 2: w = within(0, 99); l = below(2) == 0 ? l : 0; due("request", x.request(r, l, w), y.request(r, l, w)); break;
            default: break;
        }
        switch (below(8)) {
            case 0: if (below(3) == 0) {
                    due("forget", x.forget(), y.forget());
                }
                break;
            case 1: w = set(y.told(3)); due("grant(" + w + ")", x.grant(w), y.grant(w)); break;
            case 2: w = below(2) == 0 ? within(0, 9) : within(0, 200);
                what = within(0, 2);
                due("best(" + w + ", " + what + ")", x.best(w, what), y.best(w, what));
                break;
            default: w = set(y.told(0)); what = set(y.told(1));
                w = below(2) == 0 && y.told(0) > 0 ? 1 << below(y.told(0)) : w;
                due("toKnow(" + w + ", " + what + ")", x.toKnow(w, what), y.toKnow(w, what));
        }
    }

    private void odds() {
        int l = pick(y.told(0));
        int a = within(0, 9);
        int b = within(1, 99);
        int c = within(0, 200);
        switch (below(5)) {
            case 0: due("life", x.life(a, b, c), y.life(a, b, c)); break;
            case 1: c = within(1, 40); due("right", x.right(c), y.right(c)); break;
            case 2: a = below(2) == 0 ? 0 : within(0, 99);
                b = y.told(4) > 0 ? y.reading(below(y.told(4)), 0) : within(0, 9999);
                due("claim(" + l + ", " + a + ", " + b + ")", x.claim(l, a, b), y.claim(l, a, b));
                break;
            case 3: a = below(2) == 0 ? within(0, 99) : y.page(below(41), 1);
                due("whence(" + l + ", " + a + ")", x.whence(l, a), y.whence(l, a));
                break;
            default: a = below(3) == 0 ? within(1, 100) : within(1, 6);
                b = within(1, 20);
                c = within(0, 1);
                due("span(" + a + ", " + b + ", " + c + ")", x.span(a, b, c), y.span(a, b, c));
        }
    }

    private void diary() {
        int n;
        switch (below(7)) {
            case 0: case 1: n = below(8) == 0 ? within(0, 16) : y.told(9); due("note", x.note(n), y.note(n)); break;
            case 2: if (below(9) == 0) {
                    due("tear", x.tear(), y.tear());
                }
                break;
            case 3: due("judge", x.judge(), y.judge()); break;
            case 4: n = within(0, Integer.MAX_VALUE - 1); due("seed", x.seed(n), y.seed(n)); break;
            case 5: n = pick(2); due("keep", x.keep(n), y.keep(n)); break;
            default: n = pick(2); due("goBack", x.goBack(n), y.goBack(n));
        }
    }
}
