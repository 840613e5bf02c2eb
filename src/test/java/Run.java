import java.lang.reflect.InvocationTargetException;
import java.lang.reflect.Method;
import java.util.ArrayList;
import java.util.HashMap;
import java.util.LinkedHashMap;
import java.util.List;
import java.util.Map;

/**
 * A run of calls, told by their texts. It can be made again on a new object, so that a state can be looked at from all
 * sides although no object is used for more than 512 calls.
 */
final class Run {
    private static final int CALLS_MOST = 512;
    private static final int REFUSED = -1000000000;
    private static final Map<String, Made> KNOWN_CALLS = new HashMap<>();

    private record Made(Method method, Object[] values) { }

    private final List<String> calls = new ArrayList<>();
    private final DimBooks live = new DimBooks();
    private Map<String, Integer> seen = null;

    private Run() {
    }

    /** A new object. */
    static Run fresh() {
        return new Run();
    }

    /** A new object with this library; the text must be sound. */
    static Run of(String text) {
        return fresh().feeds(text).does("library()");
    }

    /** Everything is full, kept, gone or under way, but for image 1. */
    static Run house() {
        Run x = of("line 9 0;".repeat(15) + "line 9 8;reader copyist 99;reader aloud 9;reader teacher 7;reader thief 5;"
            + "reader silent 1;reader copyist 2;reader teacher 3;reader silent 99;error 50;");
        for (int p = 16; p < 40; p++) {
            x.does("copy(0, " + (p - 16) % 15 + ")");
        }
        x.does("read(1, 3)", "read(2, 4)", "read(3, 5)", "keep(0)", "dusk(1)", "read(7, 15)", "read(5, 20)", "teach(2, 4, 4)");
        x.does(9, "where(6)");
        for (int i = 0; i < 10; i++) {
            x.does("request(" + i % 8 + ", " + i % 3 + ", " + 9 * i + ")");
        }
        for (int i = 0; i < 60; i++) {
            x.does("note(" + (i == 0 ? 16 : i % 17) + ")");
        }
        return x.feeds("line 7 7;".repeat(44) + "line");
    }

    private static Made made(String call) {
        Made known = KNOWN_CALLS.get(call);
        if (known != null) {
            return known;
        }
        int open = call.indexOf('(');
        String inside = call.substring(open + 1, call.length() - 1).trim();
        String[] parts = inside.isEmpty() ? new String[0] : inside.split(", *");
        for (Method m : DimBooks.class.getMethods()) {
            Class<?>[] types = m.getParameterTypes();
            if (m.getName().equals(call.substring(0, open)) && types.length == parts.length) {
                Object[] values = new Object[parts.length];
                for (int i = 0; i < parts.length; i++) {
                    values[i] = types[i] == long.class ? (Object) Long.valueOf(parts[i]) : (Object) Integer.valueOf(parts[i]);
                }
                KNOWN_CALLS.put(call, new Made(m, values));
                return KNOWN_CALLS.get(call);
            }
        }
        throw new IllegalStateException("there is no call " + call);
    }

    private static int answer(DimBooks x, String call) {
        Made made = made(call);
        try {
            return (Integer) made.method.invoke(x, made.values);
        } catch (InvocationTargetException e) {
            throw new IllegalStateException(call + " threw", e.getCause());
        } catch (IllegalAccessException e) {
            throw new IllegalStateException(call + " is not open", e);
        }
    }

    private int make(String call) {
        calls.add(call);
        seen = null;
        if (calls.size() > CALLS_MOST) {
            throw new IllegalStateException("more than 512 calls, the last is " + call);
        }
        return answer(live, call);
    }

    int length() {
        return calls.size();
    }

    /** Brings a text, whatever its bytes are. */
    Run feeds(String text) {
        for (int i = 0; i < text.length(); i += 8) {
            String part = text.substring(i, Math.min(text.length(), i + 8));
            does("feed(" + part.length() + ", " + Check.pack(part) + ")");
        }
        return this;
    }

    /** Makes calls none of which may be refused. */
    Run does(String... more) {
        for (String call : more) {
            taken(call, make(call));
        }
        return this;
    }

    private void taken(String call, int got) {
        Check.due("behind " + latest() + ": " + call + " is taken, its answer " + got, got < REFUSED ? 1 : 0, 0);
    }

    Run does(int times, String call) {
        for (int i = 0; i < times; i++) {
            does(call);
        }
        return this;
    }

    /** Makes a call that may be refused; only that it is answered counts. */
    Run any(String call) {
        make(call);
        return this;
    }

    /** This run, or, when its 512 calls are used up, the other one begun anew. */
    Run withRoom(Run other) {
        return calls.size() < CALLS_MOST ? this : other.twin();
    }

    /** Makes a call and looks at its answer. */
    Run due(String call, int want) {
        Check.due("behind " + latest() + ": " + call, make(call), want);
        return this;
    }

    /** A call that is not made in this run: its answer, and that it would change nothing. */
    Run asks(String call, int want) {
        List<String> longer = new ArrayList<>(calls);
        longer.add(call);
        Check.due("behind " + latest() + ": " + call, asked(call), want);
        unchanged(call, longer);
        return this;
    }

    /** The answer of a call that is not made in this run. */
    int asked(String call) {
        return answer(again(calls), call);
    }

    /** Calls that are all refused so, and change nothing. */
    Run refuses(int refusal, String... refused) {
        for (String call : refused) {
            asks(call, refusal);
        }
        return this;
    }

    /** Calls that are taken, each with an answer that is not looked at here, on an object of its own. */
    Run takes(String... taken) {
        for (String call : taken) {
            taken(call, asked(call));
        }
        return this;
    }

    /** A call on an object of its own: its answer alone. */
    Run would(String call, int want) {
        Check.due("behind " + latest() + ": " + call, asked(call), want);
        return this;
    }

    /** Makes calls behind which all must be as it was ahead of them. */
    Run leavesAll(String... more) {
        Map<String, Integer> before = sight();
        for (String call : more) {
            make(call);
        }
        seen = before;
        unchanged(String.join(" ", more), calls);
        return this;
    }

    private void unchanged(String what, List<String> longer) {
        Map<String, Integer> before = sight();
        Map<String, Integer> after = sight(longer);
        StringBuilder other = new StringBuilder();
        for (String question : before.keySet()) {
            if (!before.get(question).equals(after.get(question))) {
                other.append(' ').append(question).append(' ').append(before.get(question)).append(" > ").append(after.get(question));
            }
        }
        Check.same(what + " changes nothing", other.toString() + after.size(), "" + before.size());
    }

    /** A copy of this run, to go on from. */
    Run twin() {
        Run x = new Run();
        for (String call : calls) {
            x.make(call);
        }
        return x;
    }

    private String latest() {
        int from = Math.max(0, calls.size() - 4);
        return (from > 0 ? ".. " : "") + String.join(" ", calls.subList(from, calls.size()));
    }

    private static DimBooks again(List<String> calls) {
        DimBooks x = new DimBooks();
        for (String call : calls) {
            answer(x, call);
        }
        return x;
    }

    private Map<String, Integer> sight() {
        if (seen == null) {
            seen = sight(calls);
        }
        return seen;
    }

    /** All that can be seen: as it is, and through calls that show the images, the text, the requests. */
    private static Map<String, Integer> sight(List<String> calls) {
        Map<String, Integer> all = new LinkedHashMap<>();
        look(calls, "", all);
        look(calls, "goBack(0)", all);
        look(calls, "goBack(1)", all);
        look(calls, "library()", all);
        look(calls, "grant(" + ((1 << again(calls).told(3)) - 1) + ")", all);
        return all;
    }

    private static void look(List<String> calls, String lens, Map<String, Integer> all) {
        List<String> run = new ArrayList<>(calls);
        DimBooks x = again(calls);
        if (!lens.isEmpty()) {
            run.add(lens);
            all.put(lens, answer(x, lens));
        }
        List<String> questions = questions(x.told(0), x.told(1), x.told(2), x.told(4));
        int most = CALLS_MOST - run.size();
        if (most < 8) {
            throw new IllegalStateException("too long a run to be looked at: " + calls.size() + " calls");
        }
        for (int i = 0; i < questions.size(); i++) {
            x = i % most == 0 ? again(run) : x;
            all.put(lens + " " + questions.get(i), answer(x, questions.get(i)));
        }
    }

    private static List<String> questions(int lines, int readers, int pages, int readings) {
        List<String> all = new ArrayList<>(List.of("fault()", "judge()", "best(0, 0)", "best(0, 1)", "best(0, 2)", "best(9, 0)",
            "best(9, 1)", "best(9, 2)", "best(200, 0)", "best(200, 1)", "best(200, 2)", "span(3, 3, 0)", "span(3, 3, 1)",
            "right(3)", "life(3, 2, 9)"));
        both(all, "told(", 10, "", 0);
        both(all, "line(", lines, ", ", 6);
        both(all, "reader(", readers, ", ", 3);
        both(all, "page(", pages, ", ", 4);
        both(all, "reading(", readings, ", ", 3);
        both(all, "whence(", lines, ", ", pages + 2);
        for (int r = 0; r < readers; r++) {
            both(all, "knows(" + r + ", ", lines, ", ", 2);
        }
        for (int l = 0; l < lines; l++) {
            all.add("toKnow(" + (1 << l) + ", " + ((1 << readers) - 1) + ")");
            both(all, "claim(" + l + ", ", 2, ", ", 3);
        }
        // The last question changes THE SEED, so nothing may be asked behind it.
        all.add("seed(0)");
        return all;
    }

    private static void both(List<String> all, String head, int firsts, String between, int seconds) {
        for (int a = 0; a < firsts; a++) {
            for (int b = 0; b < Math.max(1, seconds); b++) {
                all.add(head + a + (seconds > 0 ? between + b : "") + ")");
            }
        }
    }
}
