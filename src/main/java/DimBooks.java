import java.util.Arrays;

/** A library whose pages pale at each reading. The numbered promises stand in ../shared/DOC.md. */
public final class DimBooks {
    public static final int NONE = -1, UNKNOWN = -1000000001, OUTSIDE = -1000000002, NOT = -1000000003, FULL = -1000000004;

    private static final int TEXT_MOST = 400;
    private static final int LINES_MOST = 16;
    private static final int READERS_MOST = 8;
    private static final int PAGES_MOST = 40;
    private static final int READINGS_MOST = 300;
    private static final int REQUESTS_MOST = 10;
    private static final int DIARY_MOST = 60;
    private static final int IMAGES = 2;
    private static final int COPIES_MOST = 40;
    private static final int VARIANT_MOST = 99;
    private static final int LAST_DAY = 9999;
    private static final int GONE = 9;
    private static final int MILLION = 1000000;
    private static final int BILLION = 1000000000;
    private static final int ERROR_UNTOLD = 10;
    private static final int SEED_MOST = 2147483647;

    private static final int SILENT = 0;
    private static final int ALOUD = 1;
    private static final int COPYIST = 2;
    private static final int THIEF = 3;
    private static final int TEACHER = 4;

    private static final int CANNOT_STAND = 1;
    private static final int BAD_NUMBER = 2;
    private static final int TOO_MANY = 3;

    private final Script script;
    private final Library draft;
    private final Library lib;
    private final State now;
    private final State trial;
    private final State[] images;
    private int imagesKept;
    private final Requests requests;
    private final Choice choice;
    private final int[] diary;
    private int entries;
    private final int[] odds;

    public DimBooks() {
        script = new Script();
        draft = new Library();
        lib = new Library();
        now = new State(lib);
        trial = new State(lib);
        images = new State[IMAGES];
        for (int i = 0; i < IMAGES; i++) {
            images[i] = new State(lib);
        }
        imagesKept = 0;
        requests = new Requests();
        choice = new Choice();
        diary = new int[DIARY_MOST];
        entries = 0;
        odds = new int[COPIES_MOST + 1];
    }

    // ---- the library

    public int feed(int n, long bytes) {
        if (n < 1 || n > 8) {
            return OUTSIDE;
        }
        if (script.length + n > TEXT_MOST) {
            return FULL;
        }
        for (int k = n - 1; k >= 0; k--) {
            script.append((int) (bytes >>> (8 * k)) & 255);
        }
        return script.length;
    }

    public int library() {
        script.parseInto(draft);
        script.length = 0;
        if (script.fault != 0) {
            return -10 - script.fault;
        }
        lib.copyFrom(draft);
        now.open();
        requests.count = 0;
        entries = 0;
        imagesKept = 0;
        return lib.lines;
    }

    public int fault() {
        return script.faultAt;
    }

    public int told(int what) {
        switch (what) {
            case 0: return lib.lines;
            case 1: return lib.readers;
            case 2: return now.pages;
            case 3: return requests.count;
            case 4: return now.log.count;
            case 5: return entries;
            case 6: return script.length;
            case 7: return now.day;
            case 8: return lib.error;
            case 9: return now.countKept(0);
            default: return OUTSIDE;
        }
    }

    public int line(int l, int what) {
        if (!lib.hasLine(l)) {
            return UNKNOWN;
        }
        switch (what) {
            case 0: return lib.worths[l];
            case 1: return now.isKept(l, 0) ? 1 : 0;
            case 2: return now.pagesLeft(l);
            case 3: return now.knowers(l);
            case 4: return now.voteOn(l);
            case 5: return now.entryShades[l];
            default: return OUTSIDE;
        }
    }

    public int reader(int r, int what) {
        if (!lib.hasReader(r)) {
            return UNKNOWN;
        }
        switch (what) {
            case 0: return lib.kinds[r];
            case 1: return lib.terms[r];
            case 2: return now.linesKnown(r);
            default: return OUTSIDE;
        }
    }

    public int page(int p, int what) {
        if (!now.hasPage(p)) {
            return UNKNOWN;
        }
        switch (what) {
            case 0: return now.lineOf[p];
            case 1: return now.variantOf[p];
            case 2: return now.shadeOf[p];
            case 3: return now.log.timesRead(p);
            default: return OUTSIDE;
        }
    }

    public int knows(int r, int l, int what) {
        if (!lib.hasReader(r) || !lib.hasLine(l)) {
            return UNKNOWN;
        }
        if (what < 0 || what > 1) {
            return OUTSIDE;
        }
        if (!now.knowsAny(r, l)) {
            return NONE;
        }
        return what == 0 ? now.variantKnown(r, l) : now.dayLearnt(r, l);
    }

    public int reading(int i, int what) {
        if (what < 0 || what > 2) {
            return OUTSIDE;
        }
        if (i < 0 || i >= now.log.count) {
            return NONE;
        }
        switch (what) {
            case 0: return now.log.days[i];
            case 1: return now.log.pages[i];
            default: return now.log.readers[i];
        }
    }

    // ---- acts

    public int read(int r, int p) {
        if (!lib.hasReader(r) || !now.hasPage(p)) {
            return UNKNOWN;
        }
        if (now.isGone(p)) {
            return NOT;
        }
        now.readPage(r, p);
        return now.shadeOf[p];
    }

    public int copy(int r, int p) {
        if (!lib.hasReader(r) || !now.hasPage(p)) {
            return UNKNOWN;
        }
        if (lib.kinds[r] != COPYIST || now.isGone(p)) {
            return NOT;
        }
        if (now.isFull()) {
            return FULL;
        }
        now.readPage(r, p);
        return now.addPage(now.lineOf[p], now.variantOf[p], r);
    }

    public int write(int r, int l) {
        if (!lib.hasReader(r) || !lib.hasLine(l)) {
            return UNKNOWN;
        }
        if (lib.kinds[r] != COPYIST || !now.knowsAny(r, l)) {
            return NOT;
        }
        return now.addPage(l, now.variantKnown(r, l), r);
    }

    public int teach(int a, int b, int l) {
        if (!lib.hasReader(a) || !lib.hasReader(b) || a == b || !lib.hasLine(l)) {
            return UNKNOWN;
        }
        if (lib.kinds[a] != TEACHER || !now.knowsAny(a, l)) {
            return NOT;
        }
        int variant = now.variantKnown(a, l);
        now.learn(b, l, variant);
        now.learn(a, l, variant);
        return variant;
    }

    public int dusk(int n) {
        if (n < 1 || n > 200) {
            return OUTSIDE;
        }
        now.passDusks(n);
        return now.day;
    }

    public int run(int n) {
        if (n < 1 || n > 100) {
            return OUTSIDE;
        }
        if (now.pages == 0) {
            return NOT;
        }
        now.liveByDraws(n);
        return now.countGone();
    }

    public int where(int l) {
        if (!lib.hasLine(l)) {
            return UNKNOWN;
        }
        if (now.entryShades[l] >= GONE) {
            return NOT;
        }
        now.entryShades[l]++;
        return now.firstPage(l);
    }

    // ---- requests, knowing

    public int request(int r, int l, int w) {
        if (!lib.hasReader(r) || !lib.hasLine(l)) {
            return UNKNOWN;
        }
        if (w < 0 || w > 99) {
            return OUTSIDE;
        }
        return requests.add(r, l, w);
    }

    public int forget() {
        int had = requests.count;
        requests.count = 0;
        return had;
    }

    public int grant(int set) {
        if (!isSetOf(set, requests.count)) {
            return UNKNOWN;
        }
        return requests.fulfil(set, now);
    }

    public int best(int h, int what) {
        if (h < 0 || h > 200 || what < 0 || what > 2) {
            return OUTSIDE;
        }
        // Readings of one line touch nothing of another, so the best set is made up line by line.
        choice.clear();
        for (int l = 0; l < lib.lines; l++) {
            chooseFor(l, h);
        }
        switch (what) {
            case 0: return choice.set;
            case 1: return choice.sum;
            default: return choice.lost;
        }
    }

    private void chooseFor(int l, int h) {
        int wanted = requests.forLine(l);
        int bestSet = 0;
        int bestSum = NONE;
        boolean bestKept = false;
        for (int set = 0; set <= wanted; set++) {
            if ((set & wanted) != set) {
                continue;
            }
            trial.copyBooks(now);
            int sum = requests.fulfil(set, trial);
            boolean kept = trial.isKept(l, h);
            sum += kept ? lib.worths[l] : 0;
            if (sum > bestSum || sum == bestSum && Integer.bitCount(set) < Integer.bitCount(bestSet)) {
                bestSet = set;
                bestSum = sum;
                bestKept = kept;
            }
        }
        choice.addLine(l, bestSet, bestSum, bestKept);
    }

    public int toKnow(int lines, int readers) {
        if (!isSetOf(lines, lib.lines) || !isSetOf(readers, lib.readers)) {
            return UNKNOWN;
        }
        int sum = 0;
        for (int l = 0; l < lib.lines; l++) {
            if (has(lines, l)) {
                int fewest = fewestToKnow(l, readers);
                if (fewest == NONE) {
                    return NONE;
                }
                sum += fewest;
            }
        }
        return sum;
    }

    private int fewestToKnow(int l, int readers) {
        int lacking = readers & ~now.trueKnowers(l);
        int many = Integer.bitCount(lacking);
        if (many == 0) {
            return 0;
        }
        boolean onPage = now.truePages(l) > 0;
        if (onPage && lib.readersOfKind(ALOUD) != 0) {
            return 1;
        }
        if (pagesAllow(l, lacking)) {
            return many;
        }
        int teachers = lib.readersOfKind(TEACHER);
        if ((teachers & now.trueKnowers(l)) != 0) {
            return many;
        }
        if (!onPage || teachers == 0) {
            return NONE;
        }
        // A teacher of the set is one of those who lack it: his reading stands for his being taught.
        return (teachers & readers) != 0 ? many : many + 1;
    }

    /** A thief ends the page that he reads, so each needs a page of his own to be the last of. */
    private boolean pagesAllow(int l, int lacking) {
        int thieves = Integer.bitCount(lacking & lib.readersOfKind(THIEF));
        return thieves <= now.truePages(l) && Integer.bitCount(lacking) <= now.trueReadingsLeft(l);
    }

    // ---- odds, claims

    public int life(int s, int m, int n) {
        if (s < 0 || s > GONE || m < 1 || m > 99 || n < 0 || n > 200) {
            return OUTSIDE;
        }
        Arrays.fill(odds, 0);
        odds[s] = BILLION;
        for (int d = 0; d < n; d++) {
            // From the palest down, so that nothing is read twice in a day.
            for (int shade = GONE - 1; shade >= 0; shade--) {
                int isRead = odds[shade] / m;
                odds[shade + 1] += isRead;
                odds[shade] -= isRead;
            }
        }
        int lives = 0;
        for (int shade = 0; shade < GONE; shade++) {
            lives += odds[shade];
        }
        return lives;
    }

    public int right(int c) {
        if (c < 1 || c > COPIES_MOST) {
            return OUTSIDE;
        }
        Arrays.fill(odds, 0);
        odds[0] = MILLION;
        for (int copied = 0; copied < c; copied++) {
            for (int rights = copied; rights >= 0; rights--) {
                int wrong = odds[rights] * lib.error / 100;
                odds[rights + 1] += odds[rights] - wrong;
                odds[rights] = wrong;
            }
        }
        int sum = 0;
        for (int rights = c / 2 + 1; rights <= c; rights++) {
            sum += odds[rights];
        }
        return sum;
    }

    public int claim(int l, int variant, int day) {
        if (!lib.hasLine(l)) {
            return UNKNOWN;
        }
        if (variant < 0 || variant > VARIANT_MOST || day < 0 || day > LAST_DAY) {
            return OUTSIDE;
        }
        return now.canBeCopied(l, variant, day) ? 0 : 1;
    }

    public int whence(int l, int variant) {
        if (!lib.hasLine(l)) {
            return UNKNOWN;
        }
        if (variant < 0 || variant > VARIANT_MOST) {
            return OUTSIDE;
        }
        return now.firstWriter(l, variant);
    }

    public int span(int n, int k, int what) {
        if (n < 1 || n > 100 || k < 1 || k > 20 || what < 0 || what > 1) {
            return OUTSIDE;
        }
        if (now.pages == 0) {
            return NOT;
        }
        int least = LINES_MOST;
        int greatest = 0;
        int seedNext = now.seed;
        for (int i = 0; i < k; i++) {
            trial.copyBooks(now);
            trial.seed = seedNext;
            trial.liveByDraws(n);
            seedNext = trial.seed;
            int kept = trial.countKept(0);
            least = Math.min(least, kept);
            greatest = Math.max(greatest, kept);
        }
        return what == 0 ? least : greatest;
    }

    // ---- diaries, images

    public int note(int n) {
        if (n < 0 || n > 16) {
            return OUTSIDE;
        }
        if (entries >= DIARY_MOST) {
            return FULL;
        }
        diary[entries] = n;
        entries++;
        return entries;
    }

    public int tear() {
        int had = entries;
        entries = 0;
        return had;
    }

    public int judge() {
        for (int j = 0; j < entries; j++) {
            if (diary[j] != now.countKept(j)) {
                return j;
            }
        }
        return NONE;
    }

    public int seed(int v) {
        if (v < 0) {
            return OUTSIDE;
        }
        int was = now.seed;
        now.seed = v;
        return was;
    }

    public int keep(int i) {
        if (i < 0 || i >= IMAGES) {
            return UNKNOWN;
        }
        images[i].copyFrom(now);
        imagesKept |= 1 << i;
        return 1;
    }

    public int goBack(int i) {
        if (i < 0 || i >= IMAGES) {
            return UNKNOWN;
        }
        if (!has(imagesKept, i)) {
            return NOT;
        }
        now.copyFrom(images[i]);
        return 1;
    }

    private static boolean has(int set, int k) {
        return (set >>> k & 1) == 1;
    }

    /** Whether no bit of the set stands at count or above; count is below 32. */
    private static boolean isSetOf(int set, int count) {
        return set >>> count == 0;
    }

    /** What the text tells. */
    private static final class Library {
        final int[] worths = new int[LINES_MOST];
        final int[] firstShades = new int[LINES_MOST];
        final int[] kinds = new int[READERS_MOST];
        final int[] terms = new int[READERS_MOST];
        int lines = 0;
        int readers = 0;
        int error = ERROR_UNTOLD;
        boolean errorTold = false;

        void clear() {
            lines = 0;
            readers = 0;
            error = ERROR_UNTOLD;
            errorTold = false;
        }

        void copyFrom(Library other) {
            System.arraycopy(other.worths, 0, worths, 0, LINES_MOST);
            System.arraycopy(other.firstShades, 0, firstShades, 0, LINES_MOST);
            System.arraycopy(other.kinds, 0, kinds, 0, READERS_MOST);
            System.arraycopy(other.terms, 0, terms, 0, READERS_MOST);
            lines = other.lines;
            readers = other.readers;
            error = other.error;
            errorTold = other.errorTold;
        }

        void addLine(int worth, int shade) {
            if (lines < LINES_MOST) {
                worths[lines] = worth;
                firstShades[lines] = shade;
                lines++;
            }
        }

        void addReader(int kind, int term) {
            if (readers < READERS_MOST) {
                kinds[readers] = kind;
                terms[readers] = term;
                readers++;
            }
        }

        void tellError(int ofHundred) {
            error = ofHundred;
            errorTold = true;
        }

        boolean hasLine(int l) {
            return l >= 0 && l < lines;
        }

        boolean hasReader(int r) {
            return r >= 0 && r < readers;
        }

        int readersOfKind(int kind) {
            int set = 0;
            for (int r = 0; r < readers; r++) {
                if (kinds[r] == kind) {
                    set |= 1 << r;
                }
            }
            return set;
        }
    }

    /** The text as it is fed, and what its latest parsing found. */
    private static final class Script {
        final int[] bytes = new int[TEXT_MOST];
        int length = 0;
        int fault = 0;
        int faultAt = NONE;
        private int at = 0;

        void append(int sign) {
            if (length < TEXT_MOST) {
                bytes[length] = sign;
                length++;
            }
        }

        void parseInto(Library draft) {
            at = 0;
            fault = 0;
            faultAt = NONE;
            draft.clear();
            skipBlanks();
            // A clause takes a byte at least, so there are no more of them than bytes.
            for (int k = 0; k < TEXT_MOST && fault == 0 && at < length; k++) {
                parseClause(draft);
                skipBlanks();
            }
        }

        private void parseClause(Library draft) {
            int start = at;
            int end = wordEnd();
            at = end;
            if (spells(start, end, "line")) {
                parseLine(draft, start);
            } else if (spells(start, end, "reader")) {
                parseReader(draft, start);
            } else if (spells(start, end, "error")) {
                parseError(draft, start);
            } else {
                fail(CANNOT_STAND, start);
            }
        }

        private void parseLine(Library draft, int start) {
            if (draft.lines >= LINES_MOST) {
                fail(TOO_MANY, start);
            }
            int worth = takeNumber(0, 99);
            int shade = takeNumber(0, GONE);
            takeEnd();
            if (fault == 0) {
                draft.addLine(worth, shade);
            }
        }

        private void parseReader(Library draft, int start) {
            if (draft.readers >= READERS_MOST) {
                fail(TOO_MANY, start);
            }
            int kind = takeKind();
            int term = takeNumber(1, 99);
            takeEnd();
            if (fault == 0) {
                draft.addReader(kind, term);
            }
        }

        private void parseError(Library draft, int start) {
            if (draft.errorTold) {
                fail(TOO_MANY, start);
            }
            int ofHundred = takeNumber(0, 100);
            takeEnd();
            if (fault == 0) {
                draft.tellError(ofHundred);
            }
        }

        private int takeKind() {
            skipBlanks();
            int start = at;
            int end = wordEnd();
            at = end;
            if (spells(start, end, "silent")) {
                return SILENT;
            }
            if (spells(start, end, "aloud")) {
                return ALOUD;
            }
            if (spells(start, end, "copyist")) {
                return COPYIST;
            }
            if (spells(start, end, "thief")) {
                return THIEF;
            }
            if (spells(start, end, "teacher")) {
                return TEACHER;
            }
            fail(CANNOT_STAND, start);
            return NONE;
        }

        private int takeNumber(int least, int most) {
            skipBlanks();
            int start = at;
            int value = 0;
            while (at < length && isFigure(bytes[at])) {
                // Beyond three figures the value no longer matters, and must not grow.
                value = at - start < 3 ? value * 10 + bytes[at] - '0' : value;
                at++;
            }
            if (at == start) {
                fail(CANNOT_STAND, start);
            } else if (at - start > 3 || value < least || value > most) {
                fail(BAD_NUMBER, start);
            }
            return value;
        }

        private void takeEnd() {
            skipBlanks();
            if (at < length && bytes[at] == ';') {
                at++;
            } else {
                fail(CANNOT_STAND, at);
            }
        }

        private void skipBlanks() {
            while (at < length && bytes[at] == ' ') {
                at++;
            }
        }

        private int wordEnd() {
            int end = at;
            while (end < length && bytes[end] >= 'a' && bytes[end] <= 'z') {
                end++;
            }
            return end;
        }

        private boolean spells(int start, int end, String word) {
            if (end - start != word.length()) {
                return false;
            }
            for (int k = 0; k < word.length(); k++) {
                if (bytes[start + k] != word.charAt(k)) {
                    return false;
                }
            }
            return true;
        }

        private static boolean isFigure(int sign) {
            return sign >= '0' && sign <= '9';
        }

        /** Parsing goes from the left, so the first fault that is found is the one at the first byte. */
        private void fail(int number, int where) {
            if (fault == 0) {
                fault = number;
                faultAt = where;
            }
        }
    }

    /** The readings that are written down. */
    private static final class Log {
        final int[] days = new int[READINGS_MOST];
        final int[] pages = new int[READINGS_MOST];
        final int[] readers = new int[READINGS_MOST];
        int count = 0;

        void add(int day, int p, int r) {
            if (count < READINGS_MOST) {
                days[count] = day;
                pages[count] = p;
                readers[count] = r;
                count++;
            }
        }

        int timesRead(int p) {
            int times = 0;
            for (int i = 0; i < count; i++) {
                if (pages[i] == p) {
                    times++;
                }
            }
            return times;
        }

        void copyFrom(Log other) {
            System.arraycopy(other.days, 0, days, 0, READINGS_MOST);
            System.arraycopy(other.pages, 0, pages, 0, READINGS_MOST);
            System.arraycopy(other.readers, 0, readers, 0, READINGS_MOST);
            count = other.count;
        }
    }

    /** All that an image keeps. Its methods take lines, readers and pages that there are. */
    private static final class State {
        private static final int HEARTS = READERS_MOST * LINES_MOST;

        private final Library lib;
        final Log log = new Log();
        final int[] lineOf = new int[PAGES_MOST];
        final int[] variantOf = new int[PAGES_MOST];
        final int[] shadeOf = new int[PAGES_MOST];
        private final int[] writerOf = new int[PAGES_MOST];
        private final int[] variantHeld = new int[HEARTS];
        private final int[] daySince = new int[HEARTS];
        final int[] entryShades = new int[LINES_MOST];
        int pages = 0;
        int day = 0;
        int seed = 0;

        State(Library lib) {
            this.lib = lib;
            Arrays.fill(variantHeld, NONE);
        }

        /** Begins the library anew; the seed is none of its parts and goes on. */
        void open() {
            pages = lib.lines;
            for (int l = 0; l < lib.lines; l++) {
                lineOf[l] = l;
                variantOf[l] = 0;
                shadeOf[l] = lib.firstShades[l];
                writerOf[l] = NONE;
                entryShades[l] = 0;
            }
            Arrays.fill(variantHeld, NONE);
            log.count = 0;
            day = 0;
        }

        void copyFrom(State other) {
            copyBooks(other);
            System.arraycopy(other.entryShades, 0, entryShades, 0, LINES_MOST);
            log.copyFrom(other.log);
        }

        /** What a trial can change of a state, but for the log, which no trial looks at. */
        void copyBooks(State other) {
            System.arraycopy(other.lineOf, 0, lineOf, 0, PAGES_MOST);
            System.arraycopy(other.variantOf, 0, variantOf, 0, PAGES_MOST);
            System.arraycopy(other.shadeOf, 0, shadeOf, 0, PAGES_MOST);
            System.arraycopy(other.writerOf, 0, writerOf, 0, PAGES_MOST);
            System.arraycopy(other.variantHeld, 0, variantHeld, 0, HEARTS);
            System.arraycopy(other.daySince, 0, daySince, 0, HEARTS);
            pages = other.pages;
            day = other.day;
            seed = other.seed;
        }

        boolean hasPage(int p) {
            return p >= 0 && p < pages;
        }

        boolean isGone(int p) {
            return shadeOf[p] >= GONE;
        }

        boolean isFull() {
            return pages >= PAGES_MOST;
        }

        private static int heart(int r, int l) {
            return r * LINES_MOST + l;
        }

        /** Days only go on, so what is forgotten need not be struck out: it is too old from then on. */
        private int variantAt(int r, int l, int then) {
            int h = heart(r, l);
            return then - daySince[h] < lib.terms[r] ? variantHeld[h] : NONE;
        }

        int variantKnown(int r, int l) {
            return variantAt(r, l, day);
        }

        boolean knowsAny(int r, int l) {
            return variantKnown(r, l) != NONE;
        }

        int dayLearnt(int r, int l) {
            return daySince[heart(r, l)];
        }

        void learn(int r, int l, int variant) {
            variantHeld[heart(r, l)] = variant;
            daySince[heart(r, l)] = day;
        }

        void readPage(int r, int p) {
            log.add(day, p, r);
            shadeOf[p] = lib.kinds[r] == THIEF ? GONE : shadeOf[p] + 1;
            if (lib.kinds[r] != ALOUD) {
                learn(r, lineOf[p], variantOf[p]);
                return;
            }
            for (int hearer = 0; hearer < lib.readers; hearer++) {
                learn(hearer, lineOf[p], variantOf[p]);
            }
        }

        int addPage(int l, int variant, int writer) {
            if (isFull()) {
                return FULL;
            }
            int p = pages;
            lineOf[p] = l;
            variantOf[p] = draw(100) < lib.error ? p + 1 : variant;
            shadeOf[p] = 0;
            writerOf[p] = writer;
            pages++;
            return p;
        }

        private int draw(int n) {
            // The product may wrap: what is left over by 2 to the 31 is in the low bits.
            seed = (seed * 1103515245 + 12345) & SEED_MOST;
            return n > 0 ? seed / 65536 % n : 0;
        }

        private int daysAhead(int n) {
            return Math.min(n, LAST_DAY - day);
        }

        void passDusks(int n) {
            day += daysAhead(n);
        }

        void liveByDraws(int n) {
            int days = daysAhead(n);
            for (int d = 0; d < days; d++) {
                for (int r = 0; r < lib.readers; r++) {
                    int p = draw(pages);
                    if (hasPage(p) && !isGone(p)) {
                        readPage(r, p);
                    }
                }
                passDusks(1);
            }
        }

        /** Whether it is kept behind so many dusks, if nothing is done. */
        boolean isKept(int l, int dusks) {
            if (truePages(l) > 0) {
                return true;
            }
            int then = day + daysAhead(dusks);
            for (int r = 0; r < lib.readers; r++) {
                if (variantAt(r, l, then) == 0) {
                    return true;
                }
            }
            return false;
        }

        int countKept(int dusks) {
            int kept = 0;
            for (int l = 0; l < lib.lines; l++) {
                if (isKept(l, dusks)) {
                    kept++;
                }
            }
            return kept;
        }

        int countGone() {
            int gone = 0;
            for (int p = 0; p < pages; p++) {
                if (isGone(p)) {
                    gone++;
                }
            }
            return gone;
        }

        private boolean isLeft(int p, int l) {
            return lineOf[p] == l && shadeOf[p] < GONE;
        }

        int pagesLeft(int l) {
            int left = 0;
            for (int p = 0; p < pages; p++) {
                if (isLeft(p, l)) {
                    left++;
                }
            }
            return left;
        }

        private int pagesLeftWith(int l, int variant) {
            int left = 0;
            for (int p = 0; p < pages; p++) {
                if (isLeft(p, l) && variantOf[p] == variant) {
                    left++;
                }
            }
            return left;
        }

        int truePages(int l) {
            return pagesLeftWith(l, 0);
        }

        int trueReadingsLeft(int l) {
            int left = 0;
            for (int p = 0; p < pages; p++) {
                if (isLeft(p, l) && variantOf[p] == 0) {
                    left += GONE - shadeOf[p];
                }
            }
            return left;
        }

        int firstPage(int l) {
            for (int p = 0; p < pages; p++) {
                if (isLeft(p, l)) {
                    return p;
                }
            }
            return NONE;
        }

        int darkestPage(int l) {
            int darkest = NONE;
            for (int p = 0; p < pages; p++) {
                if (isLeft(p, l) && (darkest == NONE || shadeOf[p] < shadeOf[darkest])) {
                    darkest = p;
                }
            }
            return darkest;
        }

        int knowers(int l) {
            int set = 0;
            for (int r = 0; r < lib.readers; r++) {
                if (knowsAny(r, l)) {
                    set |= 1 << r;
                }
            }
            return set;
        }

        private int knowersOf(int l, int variant) {
            int set = 0;
            for (int r = 0; r < lib.readers; r++) {
                if (variantKnown(r, l) == variant) {
                    set |= 1 << r;
                }
            }
            return set;
        }

        int trueKnowers(int l) {
            return knowersOf(l, 0);
        }

        int linesKnown(int r) {
            int known = 0;
            for (int l = 0; l < lib.lines; l++) {
                if (knowsAny(r, l)) {
                    known++;
                }
            }
            return known;
        }

        int voteOn(int l) {
            int all = pagesLeft(l) + Integer.bitCount(knowers(l));
            // A page's error is numbered by the page and 1, so no variant is above the count of pages.
            for (int variant = 0; variant <= pages; variant++) {
                int votes = pagesLeftWith(l, variant) + Integer.bitCount(knowersOf(l, variant));
                if (votes * 2 > all) {
                    return variant;
                }
            }
            return NONE;
        }

        boolean canBeCopied(int l, int variant, int then) {
            for (int i = 0; i < log.count; i++) {
                int p = log.pages[i];
                boolean copied = log.days[i] == then && lineOf[p] == l && lib.kinds[log.readers[i]] == COPYIST;
                if (copied && (variant != 0 || variantOf[p] == 0)) {
                    return true;
                }
            }
            return false;
        }

        /** A set of one, or empty: the true variant stood on the line's own page first, which nobody wrote. */
        int firstWriter(int l, int variant) {
            for (int p = 0; p < pages; p++) {
                if (lineOf[p] == l && variantOf[p] == variant) {
                    return writerOf[p] == NONE ? 0 : 1 << writerOf[p];
                }
            }
            return 0;
        }
    }

    /** Requests in the order in which they came. */
    private static final class Requests {
        private final int[] readers = new int[REQUESTS_MOST];
        private final int[] lines = new int[REQUESTS_MOST];
        private final int[] worths = new int[REQUESTS_MOST];
        int count = 0;

        int add(int r, int l, int w) {
            if (count >= REQUESTS_MOST) {
                return FULL;
            }
            readers[count] = r;
            lines[count] = l;
            worths[count] = w;
            count++;
            return count - 1;
        }

        int forLine(int l) {
            int set = 0;
            for (int i = 0; i < count; i++) {
                if (lines[i] == l) {
                    set |= 1 << i;
                }
            }
            return set;
        }

        /** Grants the set in a state and answers what was had. */
        int fulfil(int set, State state) {
            int had = 0;
            for (int i = 0; i < count; i++) {
                int p = has(set, i) ? state.darkestPage(lines[i]) : NONE;
                if (p != NONE) {
                    state.readPage(readers[i], p);
                    had += worths[i];
                }
            }
            return had;
        }
    }

    /** The best set, as it is made up line by line. */
    private static final class Choice {
        int set = 0;
        int sum = 0;
        int lost = 0;

        void clear() {
            set = 0;
            sum = 0;
            lost = 0;
        }

        void addLine(int l, int granted, int gained, boolean kept) {
            set |= granted;
            sum += gained;
            lost |= kept ? 0 : 1 << l;
        }
    }
}
