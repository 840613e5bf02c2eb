/** The edges that stand in the promises themselves: a method for each promise whose numbers or refusals no other test of edges has. */
public final class PromisesEdgesTest {
    private static final String HUGE = "2147483647";
    private static final String LEAST = "-2147483648";

    public static void main(String[] args) {
        newObject();
        newObjectRefuses();
        told();
        line();
        reader();
        page();
        knows();
        reading();
        read();
        teach();
        dusk();
        forget();
        grant();
        best();
        anyNumbers();
        Check.finish("PromisesEdgesTest");
    }

    /** Promise 1: 'No LINES, no READERS'; what is empty, counts, or is not asked for a LINE or a READER. */
    private static void newObject() {
        int[] want = {0, 0, 0, 0, 0, 0, 0, 0, 10, 0};
        Run x = Run.fresh();
        for (int what = 0; what < want.length; what++) {
            x.asks("told(" + what + ")", want[what]);
        }
        x.asks("fault()", Check.NONE).asks("reading(0, 0)", Check.NONE).asks("judge()", Check.NONE).asks("forget()", 0).asks("tear()", 0);
        x.asks("grant(0)", 0).asks("best(0, 0)", 0).asks("best(0, 1)", 0).asks("best(0, 2)", 0).asks("toKnow(0, 0)", 0).asks("seed(0)", 0);
        x.asks("life(0, 1, 0)", 1000000000).asks("right(1)", 900000).would("dusk(200)", 200).would("keep(0)", 1).would("note(0)", 1);
        x.asks("library()", 0);
    }

    /** Promise 1: what a new object refuses. */
    private static void newObjectRefuses() {
        Run x = Run.fresh().refuses(Check.UNKNOWN, "line(0, 0)", "reader(0, 0)", "page(0, 0)", "knows(0, 0, 0)", "read(0, 0)", "copy(0, 0)");
        x.refuses(Check.UNKNOWN, "write(0, 0)", "teach(0, 1, 0)", "where(0)", "request(0, 0, 0)", "grant(1)", "toKnow(1, 0)", "toKnow(0, 1)");
        x.refuses(Check.UNKNOWN, "claim(0, 0, 0)", "whence(0, 0)", "keep(2)", "goBack(2)").refuses(Check.NOT, "run(1)", "span(1, 1, 0)");
        x.refuses(Check.NOT, "goBack(0)", "goBack(1)");
    }

    /** Promise 5: '0 LINES .. 9 LINES KEPT. OUTSIDE'. */
    private static void told() {
        Run x = Run.house().refuses(Check.OUTSIDE, "told(-1)", "told(10)", "told(" + HUGE + ")", "told(" + LEAST + ")");
        int[] full = {16, 8, 40, 10, 29, 60, 400, 1, 50, 16};
        for (int what = 0; what < full.length; what++) {
            x.asks("told(" + what + ")", full[what]);
        }
    }

    /** Promise 6: 'what = 0 V .. 5 SHADE of its entry .. UNKNOWN, OUTSIDE'. */
    private static void line() {
        Run x = Run.house().refuses(Check.OUTSIDE, "line(0, -1)", "line(15, 6)", "line(0, " + HUGE + ")", "line(0, " + LEAST + ")");
        x.asks("line(15, 0)", 9).asks("line(15, 1)", 1).asks("line(15, 2)", 0).asks("line(15, 3)", 128).asks("line(15, 4)", 0);
        x.asks("line(6, 5)", 9).asks("line(5, 5)", 0).asks("line(3, 3)", 239);
    }

    /** Promise 7: 'what = 0 KIND, 1 F, 2 how many LINES it KNOWS. UNKNOWN, OUTSIDE'. */
    private static void reader() {
        Run x = Run.house().refuses(Check.OUTSIDE, "reader(0, -1)", "reader(7, 3)", "reader(0, " + HUGE + ")", "reader(0, " + LEAST + ")");
        // The copyist knows all lines but the last; the silent one of F 1 was told line 3, forgot it, and was taught line 4.
        x.asks("reader(0, 2)", 15).asks("reader(4, 2)", 1).asks("reader(7, 2)", 2).asks("reader(7, 0)", 0).asks("reader(7, 1)", 99);
        Run none = Run.of("line 1 0;".repeat(16) + "reader copyist 1;error 0;").asks("reader(0, 2)", 0);
        for (int l = 0; l < 16; l++) {
            none.does("read(0, " + l + ")");
        }
        none.asks("reader(0, 2)", 16).does("dusk(1)").asks("reader(0, 2)", 0);
    }

    /** Promise 8: 'what = 0 LINE .. 3 how often it was read, by READINGS. UNKNOWN, OUTSIDE'. */
    private static void page() {
        Run x = Run.house().refuses(Check.OUTSIDE, "page(0, -1)", "page(39, 4)", "page(0, " + HUGE + ")", "page(0, " + LEAST + ")");
        x.asks("page(39, 0)", 8).asks("page(39, 2)", 0).asks("page(39, 3)", 0).asks("page(0, 3)", 2).asks("page(5, 3)", 3).asks("page(5, 2)", 9);
    }

    /** Promise 9: 'what = 0 VARIANT, 1 from which DAY on; NONE: nothing. UNKNOWN, OUTSIDE'. */
    private static void knows() {
        Run x = Run.house().refuses(Check.OUTSIDE, "knows(0, 0, -1)", "knows(7, 15, 2)", "knows(0, 0, " + HUGE + ")", "knows(0, 0, " + LEAST + ")");
        x.asks("knows(7, 15, 0)", 0).asks("knows(7, 15, 1)", 1).asks("knows(0, 15, 0)", Check.NONE).asks("knows(0, 15, 1)", Check.NONE);
        // OUTSIDE stands ahead of NONE, which is no refusal.
        x.refuses(Check.OUTSIDE, "knows(0, 15, 2)", "knows(0, 15, -1)");
    }

    /** Promise 10: 'READING i: .. NONE: not so many. OUTSIDE (what)'. */
    private static void reading() {
        Run x = Run.house().asks("reading(0, 0)", 0).asks("reading(0, 1)", 0).asks("reading(0, 2)", 0).asks("reading(28, 0)", 1);
        x.asks("reading(28, 1)", 20).asks("reading(28, 2)", 5).asks("reading(29, 0)", Check.NONE).asks("reading(299, 1)", Check.NONE);
        x.asks("reading(300, 2)", Check.NONE).asks("reading(-1, 0)", Check.NONE).asks("reading(" + HUGE + ", 1)", Check.NONE);
        x.asks("reading(" + LEAST + ", 2)", Check.NONE).refuses(Check.OUTSIDE, "reading(0, -1)", "reading(0, 3)", "reading(28, 3)");
        x.refuses(Check.OUTSIDE, "reading(29, 3)", "reading(-1, -1)", "reading(0, " + HUGE + ")", "reading(0, " + LEAST + ")");
        Run.fresh().asks("reading(0, 0)", Check.NONE).refuses(Check.OUTSIDE, "reading(0, 3)", "reading(0, -1)");
    }

    /** Promise 11: 'SHADE then. UNKNOWN, NOT: it is gone'. */
    private static void read() {
        Run x = Run.house().refuses(Check.NOT, "read(0, 15)", "read(1, 15)", "read(3, 5)", "read(7, 5)").would("read(0, 39)", 1);
        x.would("read(3, 39)", 9).would("read(0, 0)", 3).refuses(Check.UNKNOWN, "read(8, 15)", "read(0, 40)");
    }

    /** Promise 14: 'the VARIANT. UNKNOWN (one twice)'. */
    private static void teach() {
        Run x = Run.house().refuses(Check.UNKNOWN, "teach(2, 2, 4)", "teach(2, 2, 3)", "teach(0, 0, 0)", "teach(7, 7, 15)", "teach(8, 8, 16)");
        x.would("teach(2, 3, 4)", 0).would("teach(6, 7, 3)", 0).refuses(Check.NOT, "teach(6, 2, 4)", "teach(7, 2, 15)", "teach(2, 0, 15)");
    }

    /** Promise 15: 'n times (1 .. 200) .. THE DAY. OUTSIDE'. */
    private static void dusk() {
        Run x = Run.house().refuses(Check.OUTSIDE, "dusk(0)", "dusk(-1)", "dusk(201)", "dusk(" + HUGE + ")", "dusk(" + LEAST + ")");
        x.would("dusk(1)", 2).would("dusk(200)", 201);
        Run.fresh().due("dusk(1)", 1).due("dusk(200)", 201).due("told(7)", 201);
    }

    /** Promise 19: 'There are no REQUESTS: how many there were'. */
    private static void forget() {
        Run.fresh().due("forget()", 0);
        Run x = Run.house().due("forget()", 10).due("forget()", 0).asks("grant(0)", 0).refuses(Check.UNKNOWN, "grant(1)", "grant(512)");
        x.asks("best(0, 0)", 0).due("request(7, 15, 99)", 0);
    }

    /** Promise 20: 'the sum of W that was had. UNKNOWN': the empty and the full set. */
    private static void grant() {
        Run x = Run.house().asks("grant(0)", 0).would("grant(1023)", 9 * 45).would("grant(512)", 81);
        x.refuses(Check.UNKNOWN, "grant(1024)", "grant(1025)", "grant(-1)", "grant(" + LEAST + ")");
    }

    /** Promise 21: 'what = 0 the SET, 1 the sum, 2 LINES that are not KEPT then (a SET). OUTSIDE'. */
    private static void best() {
        Run x = Run.house().refuses(Check.OUTSIDE, "best(0, -1)", "best(0, 3)", "best(-1, 0)", "best(201, 2)", "best(201, 3)");
        x.refuses(Check.OUTSIDE, "best(0, " + HUGE + ")", "best(0, " + LEAST + ")", "best(" + HUGE + ", 0)", "best(" + LEAST + ", 0)");
        x.takes("best(0, 0)", "best(200, 2)");
    }

    /** No call throws or hangs, whatever numbers it is asked with, on a new object and on a full one. */
    private static void anyNumbers() {
        int[] odd = {Integer.MIN_VALUE, -1, 0, 1, 8, 9, 16, 40, 60, 99, 100, 200, 300, 400, 9999, 10000, Integer.MAX_VALUE};
        String[] one = {"told", "dusk", "run", "where", "grant", "right", "note", "seed", "keep", "goBack"};
        String[] two = {"feed", "line", "reader", "page", "reading", "read", "copy", "write", "best", "toKnow", "whence"};
        String[] three = {"knows", "teach", "request", "life", "claim", "span"};
        Run[] runs = {Run.fresh(), Run.house()};
        for (Run x : runs) {
            Run y = x.twin();
            for (int a : odd) {
                for (String call : one) {
                    y = y.withRoom(x).any(call + "(" + a + ")");
                }
                for (int b : odd) {
                    for (String call : two) {
                        y = y.withRoom(x).any(call + "(" + a + ", " + b + ")");
                    }
                    for (int c : odd) {
                        for (String call : three) {
                            y = y.withRoom(x).any(call + "(" + a + ", " + b + ", " + c + ")");
                        }
                    }
                }
            }
            Check.due("it still stands", y.withRoom(x).asked("told(0)"), x.asked("told(0)"));
        }
    }
}
