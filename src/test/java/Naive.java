import java.util.ArrayList;
import java.util.HashMap;
import java.util.HashSet;
import java.util.List;
import java.util.Map;
import java.util.Set;
import java.util.regex.Matcher;
import java.util.regex.Pattern;

/** The document once more, as slow and as close to its words as can be: random runs are held against it. */
final class Naive {
    static final int NONE = -1;
    static final int UNKNOWN = -1000000001;
    static final int OUTSIDE = -1000000002;
    static final int NOT = -1000000003;
    static final int FULL = -1000000004;

    record Line(int worth, int shade) { }

    record Reader(String kind, int days) { }

    record Page(int line, int variant, int shade, int by) { }

    record Known(int variant, int since) { }

    record Reading(int day, int page, int reader) { }

    record Request(int reader, int line, int worth) { }

    record Token(int at, String text) { }

    static final class World {
        List<Page> pages = new ArrayList<>();
        Map<List<Integer>, Known> hearts = new HashMap<>();
        Map<Integer, Integer> catalogue = new HashMap<>();
        List<Reading> readings = new ArrayList<>();
        int day = 0;
        long seed = 0;

        World twin() {
            World w = new World();
            w.pages.addAll(pages);
            w.hearts.putAll(hearts);
            w.catalogue.putAll(catalogue);
            w.readings.addAll(readings);
            w.day = day;
            w.seed = seed;
            return w;
        }
    }

    private static final List<String> KINDS = List.of("silent", "aloud", "copyist", "thief", "teacher");

    private String text = "";
    private int faultAt = NONE;
    private List<Line> lines = new ArrayList<>();
    private List<Reader> readers = new ArrayList<>();
    private int error = 10;
    private World now = new World();
    private final World[] images = new World[2];
    private final List<Request> requests = new ArrayList<>();
    private final List<Integer> diary = new ArrayList<>();

    int feed(int n, long bytes) {
        if (n < 1 || n > 8) {
            return OUTSIDE;
        }
        if (text.length() + n > 400) {
            return FULL;
        }
        StringBuilder more = new StringBuilder();
        for (int k = 0; k < n; k++) {
            more.insert(0, (char) (bytes & 255));
            bytes >>= 8;
        }
        text += more;
        return text.length();
    }

    private static List<Token> tokens(String text) {
        List<Token> all = new ArrayList<>();
        Matcher m = Pattern.compile("[a-z]+|[0-9]+|[^ ]", Pattern.DOTALL).matcher(text);
        while (m.find()) {
            all.add(new Token(m.start(), m.group()));
        }
        all.add(new Token(text.length(), ""));
        return all;
    }

    /** What is wrong with a token where one of this sort is due; 0: nothing. */
    private static int wrongWith(Token t, String sort) {
        if (sort.equals(";")) {
            return t.text.equals(";") ? 0 : 1;
        }
        if (sort.equals("kind")) {
            return KINDS.contains(t.text) ? 0 : 1;
        }
        if (!t.text.matches("[0-9]+")) {
            return 1;
        }
        int least = Integer.parseInt(sort.split("-")[0]);
        int most = Integer.parseInt(sort.split("-")[1]);
        boolean fits = t.text.length() <= 3 && Integer.parseInt(t.text) >= least && Integer.parseInt(t.text) <= most;
        return fits ? 0 : 2;
    }

    int library() {
        Map<String, String> clauses = Map.of("line", "0-99 0-9 ;", "reader", "kind 1-99 ;", "error", "0-100 ;");
        Map<String, Integer> most = Map.of("line", 16, "reader", 8, "error", 1);
        Map<String, Integer> had = new HashMap<>(Map.of("line", 0, "reader", 0, "error", 0));
        List<Line> newLines = new ArrayList<>();
        List<Reader> newReaders = new ArrayList<>();
        int newError = 10;
        List<Token> all = tokens(text);
        text = "";
        int i = 0;
        while (!all.get(i).text.isEmpty()) {
            Token head = all.get(i++);
            if (!clauses.containsKey(head.text)) {
                return fail(head.at, 1);
            }
            if (had.merge(head.text, 1, Integer::sum) > most.get(head.text)) {
                return fail(head.at, 3);
            }
            List<String> parts = new ArrayList<>();
            for (String sort : clauses.get(head.text).split(" ")) {
                Token t = all.get(i++);
                int wrong = wrongWith(t, sort);
                if (wrong != 0) {
                    return fail(t.at, wrong);
                }
                parts.add(t.text);
            }
            if (head.text.equals("line")) {
                newLines.add(new Line(Integer.parseInt(parts.get(0)), Integer.parseInt(parts.get(1))));
            } else if (head.text.equals("reader")) {
                newReaders.add(new Reader(parts.get(0), Integer.parseInt(parts.get(1))));
            } else {
                newError = Integer.parseInt(parts.get(0));
            }
        }
        faultAt = NONE;
        lines = newLines;
        readers = newReaders;
        error = newError;
        long seed = now.seed;
        now = new World();
        now.seed = seed;
        for (int l = 0; l < lines.size(); l++) {
            now.pages.add(new Page(l, 0, lines.get(l).shade, NONE));
        }
        requests.clear();
        diary.clear();
        images[0] = null;
        images[1] = null;
        return lines.size();
    }

    private int fail(int at, int number) {
        faultAt = at;
        return -10 - number;
    }

    int fault() {
        return faultAt;
    }

    private boolean noLine(int l) {
        return l < 0 || l >= lines.size();
    }

    private boolean noReader(int r) {
        return r < 0 || r >= readers.size();
    }

    private boolean noPage(int p) {
        return p < 0 || p >= now.pages.size();
    }

    private boolean kind(int r, String kind) {
        return readers.get(r).kind.equals(kind);
    }

    private boolean kept(World w, int l) {
        for (Page p : w.pages) {
            if (p.line == l && p.shade < 9 && p.variant == 0) {
                return true;
            }
        }
        for (int r = 0; r < readers.size(); r++) {
            Known k = w.hearts.get(List.of(r, l));
            if (k != null && k.variant == 0) {
                return true;
            }
        }
        return false;
    }

    private int keptLines(World w) {
        int n = 0;
        for (int l = 0; l < lines.size(); l++) {
            n += kept(w, l) ? 1 : 0;
        }
        return n;
    }

    int told(int what) {
        int[] all = {lines.size(), readers.size(), now.pages.size(), requests.size(), now.readings.size(), diary.size(),
            text.length(), now.day, error, keptLines(now)};
        return what < 0 || what > 9 ? OUTSIDE : all[what];
    }

    int line(int l, int what) {
        if (noLine(l)) {
            return UNKNOWN;
        }
        if (what < 0 || what > 5) {
            return OUTSIDE;
        }
        List<Integer> votes = new ArrayList<>();
        int pages = 0;
        int knowers = 0;
        for (Page p : now.pages) {
            if (p.line == l && p.shade < 9) {
                pages++;
                votes.add(p.variant);
            }
        }
        for (int r = 0; r < readers.size(); r++) {
            if (now.hearts.containsKey(List.of(r, l))) {
                knowers += 1 << r;
                votes.add(now.hearts.get(List.of(r, l)).variant);
            }
        }
        int vote = NONE;
        for (int v : votes) {
            long like = votes.stream().filter(u -> u == v).count();
            vote = like * 2 > votes.size() ? v : vote;
        }
        int[] all = {lines.get(l).worth, kept(now, l) ? 1 : 0, pages, knowers, vote, now.catalogue.getOrDefault(l, 0)};
        return all[what];
    }

    int reader(int r, int what) {
        if (noReader(r)) {
            return UNKNOWN;
        }
        if (what < 0 || what > 2) {
            return OUTSIDE;
        }
        int known = 0;
        for (int l = 0; l < lines.size(); l++) {
            known += now.hearts.containsKey(List.of(r, l)) ? 1 : 0;
        }
        return new int[] {KINDS.indexOf(readers.get(r).kind), readers.get(r).days, known}[what];
    }

    int page(int p, int what) {
        if (noPage(p)) {
            return UNKNOWN;
        }
        if (what < 0 || what > 3) {
            return OUTSIDE;
        }
        Page q = now.pages.get(p);
        int often = (int) now.readings.stream().filter(x -> x.page == p).count();
        return new int[] {q.line, q.variant, q.shade, often}[what];
    }

    int knows(int r, int l, int what) {
        if (noReader(r) || noLine(l)) {
            return UNKNOWN;
        }
        if (what < 0 || what > 1) {
            return OUTSIDE;
        }
        Known k = now.hearts.get(List.of(r, l));
        return k == null ? NONE : what == 0 ? k.variant : k.since;
    }

    int reading(int i, int what) {
        if (what < 0 || what > 2) {
            return OUTSIDE;
        }
        if (i < 0 || i >= now.readings.size()) {
            return NONE;
        }
        Reading x = now.readings.get(i);
        return new int[] {x.day, x.page, x.reader}[what];
    }

    private void doRead(World w, int r, int p) {
        Page q = w.pages.get(p);
        w.pages.set(p, new Page(q.line, q.variant, kind(r, "thief") ? 9 : q.shade + 1, q.by));
        for (int other = 0; other < readers.size(); other++) {
            if (other == r || kind(r, "aloud")) {
                w.hearts.put(List.of(other, q.line), new Known(q.variant, w.day));
            }
        }
        if (w.readings.size() < 300) {
            w.readings.add(new Reading(w.day, p, r));
        }
    }

    private int draw(World w, int n) {
        w.seed = (w.seed * 1103515245L + 12345L) % 2147483648L;
        return (int) (w.seed / 65536 % n);
    }

    private int newPage(int r, int l, int variant) {
        int p = now.pages.size();
        boolean wrong = draw(now, 100) < error;
        now.pages.add(new Page(l, wrong ? p + 1 : variant, 0, r));
        return p;
    }

    private void doDusk(World w) {
        if (w.day == 9999) {
            return;
        }
        w.day++;
        Set<List<Integer>> lost = new HashSet<>();
        w.hearts.forEach((at, k) -> {
            if (w.day - k.since >= readers.get(at.get(0)).days) {
                lost.add(at);
            }
        });
        lost.forEach(w.hearts::remove);
    }

    int read(int r, int p) {
        if (noReader(r) || noPage(p)) {
            return UNKNOWN;
        }
        if (now.pages.get(p).shade == 9) {
            return NOT;
        }
        doRead(now, r, p);
        return now.pages.get(p).shade;
    }

    int copy(int r, int p) {
        if (noReader(r) || noPage(p)) {
            return UNKNOWN;
        }
        if (!kind(r, "copyist") || now.pages.get(p).shade == 9) {
            return NOT;
        }
        if (now.pages.size() == 40) {
            return FULL;
        }
        doRead(now, r, p);
        return newPage(r, now.pages.get(p).line, now.pages.get(p).variant);
    }

    int write(int r, int l) {
        if (noReader(r) || noLine(l)) {
            return UNKNOWN;
        }
        Known k = now.hearts.get(List.of(r, l));
        if (!kind(r, "copyist") || k == null) {
            return NOT;
        }
        return now.pages.size() == 40 ? FULL : newPage(r, l, k.variant);
    }

    int teach(int a, int b, int l) {
        if (noReader(a) || noReader(b) || a == b || noLine(l)) {
            return UNKNOWN;
        }
        Known k = now.hearts.get(List.of(a, l));
        if (!kind(a, "teacher") || k == null) {
            return NOT;
        }
        now.hearts.put(List.of(a, l), new Known(k.variant, now.day));
        now.hearts.put(List.of(b, l), new Known(k.variant, now.day));
        return k.variant;
    }

    int dusk(int n) {
        if (n < 1 || n > 200) {
            return OUTSIDE;
        }
        for (int i = 0; i < n; i++) {
            doDusk(now);
        }
        return now.day;
    }

    private void doRun(World w, int n) {
        for (int i = 0; i < n && w.day < 9999; i++) {
            for (int r = 0; r < readers.size(); r++) {
                int p = draw(w, w.pages.size());
                if (w.pages.get(p).shade < 9) {
                    doRead(w, r, p);
                }
            }
            doDusk(w);
        }
    }

    int run(int n) {
        if (n < 1 || n > 100) {
            return OUTSIDE;
        }
        if (now.pages.isEmpty()) {
            return NOT;
        }
        doRun(now, n);
        return (int) now.pages.stream().filter(p -> p.shade == 9).count();
    }

    int where(int l) {
        if (noLine(l)) {
            return UNKNOWN;
        }
        int shade = now.catalogue.getOrDefault(l, 0);
        if (shade == 9) {
            return NOT;
        }
        now.catalogue.put(l, shade + 1);
        for (int p = 0; p < now.pages.size(); p++) {
            if (now.pages.get(p).line == l && now.pages.get(p).shade < 9) {
                return p;
            }
        }
        return NONE;
    }

    int request(int r, int l, int w) {
        if (noReader(r) || noLine(l)) {
            return UNKNOWN;
        }
        if (w < 0 || w > 99) {
            return OUTSIDE;
        }
        if (requests.size() == 10) {
            return FULL;
        }
        requests.add(new Request(r, l, w));
        return requests.size() - 1;
    }

    int forget() {
        int n = requests.size();
        requests.clear();
        return n;
    }

    private int doGrant(World w, int set) {
        int had = 0;
        for (int i = 0; i < requests.size(); i++) {
            if ((set >> i & 1) == 0) {
                continue;
            }
            int found = NONE;
            for (int shade = 8; shade >= 0; shade--) {
                for (int p = w.pages.size() - 1; p >= 0; p--) {
                    boolean fits = w.pages.get(p).line == requests.get(i).line && w.pages.get(p).shade == shade;
                    found = fits ? p : found;
                }
            }
            if (found != NONE) {
                doRead(w, requests.get(i).reader, found);
                had += requests.get(i).worth;
            }
        }
        return had;
    }

    private static boolean strange(int set, int count) {
        for (int k = count; k < 32; k++) {
            if ((set & 1 << k) != 0) {
                return true;
            }
        }
        return false;
    }

    int grant(int set) {
        return strange(set, requests.size()) ? UNKNOWN : doGrant(now, set);
    }

    int best(int h, int what) {
        if (h < 0 || h > 200 || what < 0 || what > 2) {
            return OUTSIDE;
        }
        int[] found = null;
        for (int set = 0; set < 1 << requests.size(); set++) {
            World w = now.twin();
            int sum = doGrant(w, set);
            for (int i = 0; i < h; i++) {
                doDusk(w);
            }
            int lost = 0;
            for (int l = 0; l < lines.size(); l++) {
                sum += kept(w, l) ? lines.get(l).worth : 0;
                lost += kept(w, l) ? 0 : 1 << l;
            }
            int[] one = {set, sum, lost};
            if (found == null || sum > found[1] || sum == found[1] && Integer.bitCount(set) < Integer.bitCount(found[0])) {
                found = one;
            }
        }
        return found[what];
    }

    private boolean truly(int r, int l) {
        Known k = now.hearts.get(List.of(r, l));
        return k != null && k.variant == 0;
    }

    private int toKnowLine(int l, int set) {
        List<Integer> ways = new ArrayList<>();
        int lacking = 0;
        int thieves = 0;
        for (int r = 0; r < readers.size(); r++) {
            if ((set >> r & 1) == 1 && !truly(r, l)) {
                lacking++;
                thieves += kind(r, "thief") ? 1 : 0;
            }
        }
        if (lacking == 0) {
            ways.add(0);
        }
        int pages = 0;
        int allowed = 0;
        for (Page p : now.pages) {
            if (p.line == l && p.variant == 0 && p.shade < 9) {
                pages++;
                allowed += 9 - p.shade;
            }
        }
        if (lacking <= allowed && thieves <= pages) {
            ways.add(lacking);
        }
        for (int r = 0; r < readers.size(); r++) {
            boolean member = (set >> r & 1) == 1;
            if (kind(r, "aloud") && pages > 0) {
                ways.add(1);
            }
            if (kind(r, "teacher") && truly(r, l)) {
                ways.add(lacking);
            }
            if (kind(r, "teacher") && !truly(r, l) && pages > 0) {
                ways.add(member ? lacking - 1 + 1 : lacking + 1);
            }
        }
        return ways.stream().min(Integer::compare).orElse(NONE);
    }

    int toKnow(int set, int who) {
        if (strange(set, lines.size()) || strange(who, readers.size())) {
            return UNKNOWN;
        }
        int sum = 0;
        boolean none = false;
        for (int l = 0; l < lines.size(); l++) {
            if ((set >> l & 1) == 1) {
                int one = toKnowLine(l, who);
                none |= one == NONE;
                sum += one;
            }
        }
        return none ? NONE : sum;
    }

    int life(int s, int m, int n) {
        if (s < 0 || s > 9 || m < 1 || m > 99 || n < 0 || n > 200) {
            return OUTSIDE;
        }
        long[] odds = new long[10];
        odds[s] = 1000000000L;
        for (int d = 0; d < n; d++) {
            long[] next = new long[10];
            for (int shade = 0; shade < 10; shade++) {
                long read = shade == 9 ? 0 : odds[shade] / m;
                next[Math.min(9, shade + 1)] += read;
                next[shade] += odds[shade] - read;
            }
            odds = next;
        }
        return (int) (1000000000L - odds[9]);
    }

    int right(int c) {
        if (c < 1 || c > 40) {
            return OUTSIDE;
        }
        long[] odds = {1000000L};
        for (int i = 0; i < c; i++) {
            long[] next = new long[odds.length + 1];
            for (int k = 0; k < odds.length; k++) {
                next[k] += odds[k] * error / 100;
                next[k + 1] += odds[k] - odds[k] * error / 100;
            }
            odds = next;
        }
        long sum = 0;
        for (int k = 0; k <= c; k++) {
            sum += k > c - k ? odds[k] : 0;
        }
        return (int) sum;
    }

    int claim(int l, int variant, int day) {
        if (noLine(l)) {
            return UNKNOWN;
        }
        if (variant < 0 || variant > 99 || day < 0 || day > 9999) {
            return OUTSIDE;
        }
        List<Page> copied = new ArrayList<>();
        for (Reading x : now.readings) {
            if (x.day == day && kind(x.reader, "copyist") && now.pages.get(x.page).line == l) {
                copied.add(now.pages.get(x.page));
            }
        }
        boolean forged = copied.isEmpty() || variant == 0 && copied.stream().noneMatch(p -> p.variant == 0);
        return forged ? 1 : 0;
    }

    int whence(int l, int variant) {
        if (noLine(l)) {
            return UNKNOWN;
        }
        if (variant < 0 || variant > 99) {
            return OUTSIDE;
        }
        if (variant == 0) {
            return 0;
        }
        return now.pages.stream().filter(p -> p.line == l && p.variant == variant).findFirst().map(p -> 1 << p.by).orElse(0);
    }

    int span(int n, int k, int what) {
        if (n < 1 || n > 100 || k < 1 || k > 20 || what < 0 || what > 1) {
            return OUTSIDE;
        }
        if (now.pages.isEmpty()) {
            return NOT;
        }
        List<Integer> all = new ArrayList<>();
        long seed = now.seed;
        for (int i = 0; i < k; i++) {
            World w = now.twin();
            w.seed = seed;
            doRun(w, n);
            seed = w.seed;
            all.add(keptLines(w));
        }
        all.sort(Integer::compare);
        return what == 0 ? all.get(0) : all.get(k - 1);
    }

    int note(int n) {
        if (n < 0 || n > 16) {
            return OUTSIDE;
        }
        if (diary.size() == 60) {
            return FULL;
        }
        diary.add(n);
        return diary.size();
    }

    int tear() {
        int n = diary.size();
        diary.clear();
        return n;
    }

    int judge() {
        World w = now.twin();
        for (int j = 0; j < diary.size(); j++) {
            if (keptLines(w) != diary.get(j)) {
                return j;
            }
            doDusk(w);
        }
        return NONE;
    }

    int seed(int v) {
        if (v < 0) {
            return OUTSIDE;
        }
        int was = (int) now.seed;
        now.seed = v;
        return was;
    }

    int keep(int i) {
        if (i != 0 && i != 1) {
            return UNKNOWN;
        }
        images[i] = now.twin();
        return 1;
    }

    int goBack(int i) {
        if (i != 0 && i != 1) {
            return UNKNOWN;
        }
        if (images[i] == null) {
            return NOT;
        }
        now = images[i].twin();
        return 1;
    }
}
