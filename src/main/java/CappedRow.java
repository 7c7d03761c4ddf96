import java.util.Arrays;

/** A row of numbers that can be capped, floored and added to; ../shared/DOC.md tells what each call answers. */
public final class CappedRow {
    public static final int UNKNOWN = -1, OUTSIDE = -2, STATE = -3, FULL = -4, NONE = -9;
    public static final long LOST = Long.MIN_VALUE;

    private static final int NULL = 1, CAST = 2, INDEX = 3, SIZE = 4;
    private static final int ADDS = 0, CAPS = 1, FLOORS = 2, LIFTS = 3, LOWERS = 4;
    private static final int PLAIN = 0, BROAD = 1, DOUBLE = 2;
    private static final int BYTES = 0, SHORTS = 1, INTS = 2;

    private static final int MOST_CELLS = 16, MOST_HELPERS = 3, MOST_ACTS = 24, MOST_READINGS = 8;
    private static final int SHEETS = 4, LONGEST_SHEET = 60, LONGEST_DAY = 12, FOUR = 4;
    /** Sixteen cells are halved four times, so that no span's number is beyond 31. */
    private static final int SPAN_NUMBERS = 32;
    private static final int GREATEST_PACE = 9;
    private static final long FARTHEST_ACT = 1000000000000L, FARTHEST_READING = 1000000000000000L;
    private static final int FAULT_BASE = -10, WRONG_BASE = -100;
    private static final int DAY_OF_CELL = 10;

    private final Sheet[] sheets = new Sheet[SHEETS];
    private final Text text = new Text();
    private final Helpers helpers = new Helpers();
    private final Helpers guessed = new Helpers();
    private final Log log = new Log();
    private final Act told = new Act();
    private final Numbers now = new Numbers();
    private final Numbers base = new Numbers();
    /** Days and guesses are played on these numbers, so that none of them needs a new row. */
    private final Numbers trial = new Numbers();
    private final Spans spans = new Spans();
    private final Readings readings = new Readings();
    private int traced = 0;
    private int lastFault = 0;

    public CappedRow() {
        for (int k = 0; k < SHEETS; k++) {
            sheets[k] = new Sheet();
        }
    }

    // ---- 1 the row

    public int row(int sheet, int lane, int i, int n) {
        lastFault = 0;
        if (!isSheet(sheet)) {
            return UNKNOWN;
        }
        if (!isLane(lane)) {
            return OUTSIDE;
        }
        Sheet from = sheets[sheet];
        int taking = from.faultTakenAs(lane);
        if (taking != 0) {
            return failed(taking);
        }
        if (n < 0) {
            return failed(SIZE);
        }
        if (!from.hasCells(i, n)) {
            return failed(INDEX);
        }
        int wrong = text.firstFault(from, i, n);
        if (wrong != NONE) {
            return WRONG_BASE - wrong;
        }
        takeText();
        return now.count;
    }

    private void takeText() {
        now.count = text.cells;
        for (int k = 0; k < text.cells; k++) {
            now.number[k] = text.digit[k];
        }
        helpers.becomeLike(text.helpers);
        spans.halve(now.count);
        readings.count = 0;
        beginAgain();
    }

    private void beginAgain() {
        log.count = 0;
        now.forgetWhatWas();
        base.becomeLike(now);
    }

    public int ofHelper(int h, int what) {
        if (!helpers.has(h)) {
            return UNKNOWN;
        }
        switch (what) {
            case 0: return helpers.kind[h];
            case 1: return helpers.pace[h];
            case 2: return helpers.strength(h);
            case 3: return log.actsOf(h);
            default: return OUTSIDE;
        }
    }

    public long at(int k, int what) {
        if (!now.has(k)) {
            return LOST;
        }
        switch (what) {
            case 0: return now.number[k];
            case 1: return now.historic[k];
            default: return LOST;
        }
    }

    // ---- 2 acts

    public int add(int from, int to, long v) {
        int refused = refusedAim(from, to, v);
        int done = refused != 0 ? refused : act(ADDS, from, to, v);
        return done < 0 ? done : log.count;
    }

    public int cap(int from, int to, long v) {
        int refused = refusedAim(from, to, v);
        return refused != 0 ? refused : act(CAPS, from, to, v);
    }

    public int floor(int from, int to, long v) {
        int refused = refusedAim(from, to, v);
        return refused != 0 ? refused : act(FLOORS, from, to, v);
    }

    public int help(int h, int from, int to, int way) {
        if (!helpers.has(h)) {
            return UNKNOWN;
        }
        int refused = refusedRun(from, to);
        if (refused != 0) {
            return refused;
        }
        if (way != 0 && way != 1) {
            return OUTSIDE;
        }
        int done = act(way == 1 ? LIFTS : LOWERS, from, to, h);
        return done < 0 ? done : helpers.strength(h);
    }

    public int fresh() {
        if (!now.areThere()) {
            return STATE;
        }
        int acts = log.count;
        beginAgain();
        return acts;
    }

    public long day(int sheet, int lane, int i, int n, int what) {
        lastFault = 0;
        if (!isSheet(sheet) || !isLane(lane) || n < 0 || n > LONGEST_DAY || !isOfDay(what)) {
            return LOST;
        }
        Sheet from = sheets[sheet];
        int taking = from.faultTakenAs(lane);
        if (taking != 0) {
            return lost(taking);
        }
        if (!from.hasCells(i, FOUR * n)) {
            return lost(INDEX);
        }
        if (!now.areThere() || !sortsAreKnown(from, i, n)) {
            return LOST;
        }
        int wrong = playDay(from, i, n);
        if (what == 1) {
            return wrong;
        }
        return wrong != NONE ? WRONG_BASE - wrong : ofTrial(what);
    }

    /** How many numbers became others; FULL: the log takes no more. */
    private int act(int sort, int from, int to, long v) {
        Act next = log.next();
        if (next == null) {
            return FULL;
        }
        next.become(sort, from, to, v);
        return now.suffer(next, helpers);
    }

    private static boolean isOfDay(int what) {
        return what >= 0 && what <= 4 || what >= DAY_OF_CELL && what < DAY_OF_CELL + MOST_CELLS;
    }

    private static boolean sortsAreKnown(Sheet from, int i, int n) {
        for (int a = 0; a < n; a++) {
            int sort = from.code(i + FOUR * a);
            if (sort < ADDS || sort > LOWERS) {
                return false;
            }
        }
        return true;
    }

    /** The first wrong act, or NONE; the trial numbers are those behind the last act that could be. */
    private int playDay(Sheet from, int i, int n) {
        trial.becomeLike(now);
        for (int a = 0; a < n; a++) {
            int place = i + FOUR * a;
            told.become(from.code(place), from.code(place + 1), from.code(place + 2), from.code(place + 3));
            if (!canBe(told)) {
                return a;
            }
            trial.suffer(told, helpers);
        }
        return NONE;
    }

    private boolean canBe(Act act) {
        return refusedRun(act.from, act.to) == 0 && (!act.isHelp() || helpers.has(act.v));
    }

    private long ofTrial(int what) {
        int last = trial.count - 1;
        switch (what) {
            case 0: return sum(trial.number, 0, last);
            case 2: return greatest(trial.number, 0, last);
            case 3: return least(trial.number, 0, last);
            case 4: return greatest(trial.historic, 0, last);
            default: break;
        }
        int k = what - DAY_OF_CELL;
        return trial.has(k) ? trial.number[k] : LOST;
    }

    // ---- 3 runs, spans

    public long ask(int from, int to, int what) {
        if (refusedRun(from, to) != 0) {
            return LOST;
        }
        switch (what) {
            case 0: return sum(now.number, from, to);
            case 1: return greatest(now.number, from, to);
            case 2: return least(now.number, from, to);
            case 3: return howManyGreatest(now.number, from, to);
            case 4: return second(now.number, from, to);
            case 5: return howManyUnlike(now.number, from, to);
            case 6: return greatest(now.historic, from, to);
            case 7: return sum(now.historic, from, to);
            default: return LOST;
        }
    }

    public long ofSpan(int s, int what) {
        if (!spans.has(s)) {
            return LOST;
        }
        int from = spans.first[s];
        int to = spans.last[s];
        switch (what) {
            case 0: return from;
            case 1: return to;
            case 2: return greatest(now.number, from, to);
            case 3: return second(now.number, from, to);
            case 4: return howManyGreatest(now.number, from, to);
            case 5: return sum(now.number, from, to);
            case 6: return howManyUnlike(now.number, from, to);
            default: return LOST;
        }
    }

    public int looks(int from, int to, long v) {
        int refused = refusedAim(from, to, v);
        if (refused != 0) {
            return refused;
        }
        long lookedInto = 1L << 1;
        for (int s = 2; s < SPAN_NUMBERS; s++) {
            int whole = s / 2;
            if (spans.has(s) && (lookedInto >> whole & 1) != 0 && mustOpen(whole, from, to, v)) {
                lookedInto |= 1L << s;
            }
        }
        return Long.bitCount(lookedInto);
    }

    public int unlike() {
        if (!now.areThere()) {
            return STATE;
        }
        int together = 0;
        for (int s = 1; s < SPAN_NUMBERS; s++) {
            if (spans.has(s)) {
                together += howManyUnlike(now.number, spans.first[s], spans.last[s]);
            }
        }
        return together;
    }

    private boolean mustOpen(int s, int from, int to, long v) {
        int first = spans.first[s];
        int last = spans.last[s];
        if (last < from || first > to || greatest(now.number, first, last) <= v) {
            return false;
        }
        if (first < from || last > to) {
            return true;
        }
        long below = second(now.number, first, last);
        return below != LOST && below >= v;
    }

    // ---- 4 what stands where

    public int reading(int k, long v) {
        if (!now.has(k)) {
            return UNKNOWN;
        }
        if (v < -FARTHEST_READING || v > FARTHEST_READING) {
            return OUTSIDE;
        }
        return readings.keep(k, v);
    }

    public int back(int n) {
        if (n < 0 || n > readings.count) {
            return OUTSIDE;
        }
        readings.count -= n;
        return readings.count;
    }

    public int kinds(int h) {
        if (!helpers.has(h)) {
            return UNKNOWN;
        }
        int set = 0;
        for (int kind = PLAIN; kind <= DOUBLE; kind++) {
            if (fits(h, kind, helpers.pace[h])) {
                set |= 1 << kind;
            }
        }
        return set;
    }

    public int paces(int h) {
        if (!helpers.has(h)) {
            return UNKNOWN;
        }
        int set = 0;
        for (int pace = 0; pace <= GREATEST_PACE; pace++) {
            if (fits(h, helpers.kind[h], pace)) {
                set |= 1 << pace;
            }
        }
        return set;
    }

    public long odds(int from, int to, long v, int which) {
        if (refusedRun(from, to) != 0 || which != 0 && which != 1) {
            return LOST;
        }
        int all = to - from + 1;
        int such = howManyFrom(now.number, from, to, v);
        int common = commonDivisor(such, all);
        return which == 0 ? such / common : all / common;
    }

    private boolean fits(int h, int kind, int pace) {
        guessed.becomeLike(helpers);
        guessed.kind[h] = kind;
        guessed.pace[h] = pace;
        trial.becomeLike(base);
        for (int a = 0; a < log.count; a++) {
            trial.suffer(log.acts[a], guessed);
        }
        return readings.areSoBy(trial);
    }

    /** The greatest divisor of both; never below 1, so that it can divide. */
    private static int commonDivisor(int such, int all) {
        for (int d = all; d > 1; d--) {
            if (such % d == 0 && all % d == 0) {
                return d;
            }
        }
        return 1;
    }

    // ---- 5 sheets, parts

    public int sheet(int k, int lane, int n) {
        lastFault = 0;
        if (!isSheet(k)) {
            return UNKNOWN;
        }
        if (!isLane(lane) || n > LONGEST_SHEET) {
            return OUTSIDE;
        }
        if (n < 0) {
            return failed(SIZE);
        }
        sheets[k].getRow(lane, n);
        return 1;
    }

    public int lose(int k) {
        if (!isSheet(k)) {
            return UNKNOWN;
        }
        return sheets[k].loseRow() ? 1 : 0;
    }

    public int put(int k, int i, int v) {
        lastFault = 0;
        if (!isSheet(k)) {
            return UNKNOWN;
        }
        Sheet to = sheets[k];
        if (!to.hasRow) {
            return failed(NULL);
        }
        if (!to.hasCells(i, 1)) {
            return failed(INDEX);
        }
        to.cells[i] = to.cut(v);
        return 1;
    }

    public long cell(int k, int i, int lane) {
        lastFault = 0;
        if (!isSheet(k) || !isLane(lane)) {
            return LOST;
        }
        Sheet of = sheets[k];
        int taking = of.faultTakenAs(lane);
        if (taking != 0) {
            return lost(taking);
        }
        return of.hasCells(i, 1) ? of.cells[i] : lost(INDEX);
    }

    public int copy(int k, int i, int other, int j, int n) {
        lastFault = 0;
        if (!isSheet(k) || !isSheet(other)) {
            return UNKNOWN;
        }
        Sheet from = sheets[k];
        Sheet to = sheets[other];
        if (!from.hasRow || !to.hasRow) {
            return failed(NULL);
        }
        if (from.lane != to.lane) {
            return failed(CAST);
        }
        if (!from.hasCells(i, n) || !to.hasCells(j, n)) {
            return failed(INDEX);
        }
        System.arraycopy(from.cells, i, to.cells, j, n);
        return n;
    }

    public int tell(int h) {
        if (!helpers.has(h)) {
            return UNKNOWN;
        }
        int pace = helpers.pace[h];
        switch (helpers.kind[h]) {
            case DOUBLE: return doubleBody(pace);
            case BROAD: return broadBody(pace);
            default: return plainBody(pace);
        }
    }

    public int cheer(int h) {
        if (!helpers.has(h)) {
            return UNKNOWN;
        }
        boolean hasItsOwn = helpers.kind[h] == DOUBLE;
        leave(hasItsOwn ? 5 : 4);
        return hasItsOwn ? 60 : h;
    }

    public int as(int h, int kind) {
        lastFault = 0;
        if (!helpers.has(h)) {
            return UNKNOWN;
        }
        if (kind < PLAIN || kind > DOUBLE) {
            return OUTSIDE;
        }
        // Each kind is one of every kind below it.
        return helpers.kind[h] < kind ? failed(CAST) : 1;
    }

    public int trace() {
        return traced;
    }

    public int fault() {
        return lastFault;
    }

    public int many(int what) {
        switch (what) {
            case 0: return now.count;
            case 1: return helpers.count;
            case 2: return log.count;
            case 3: return spans.count();
            case 4: return readings.count;
            default: return OUTSIDE;
        }
    }

    private int plainBody(int pace) {
        leave(1);
        return pace;
    }

    private int broadBody(int pace) {
        leave(2);
        return plainBody(pace) + 100;
    }

    private int doubleBody(int pace) {
        leave(3);
        int broad = broadBody(pace);
        return broad + plainBody(pace);
    }

    private void leave(int body) {
        traced = 31 * traced + body;
    }

    // ---- refusals, faults

    private static boolean isSheet(int k) {
        return k >= 0 && k < SHEETS;
    }

    private static boolean isLane(int lane) {
        return lane >= BYTES && lane <= INTS;
    }

    /** What a run is refused with; 0: it is one. */
    private int refusedRun(int from, int to) {
        if (!now.has(from) || !now.has(to)) {
            return UNKNOWN;
        }
        return to < from ? OUTSIDE : 0;
    }

    /** What a run and the number of an act on it are refused with; 0: they can be. */
    private int refusedAim(int from, int to, long v) {
        int refused = refusedRun(from, to);
        if (refused != 0) {
            return refused;
        }
        return v < -FARTHEST_ACT || v > FARTHEST_ACT ? OUTSIDE : 0;
    }

    private int failed(int fault) {
        lastFault = fault;
        return FAULT_BASE - fault;
    }

    private long lost(int fault) {
        lastFault = fault;
        return LOST;
    }

    // ---- what is known of some numbers, from one to another one that is not ahead of it

    private static long sum(long[] of, int from, int to) {
        long sum = 0;
        for (int k = from; k <= to; k++) {
            sum += of[k];
        }
        return sum;
    }

    private static long greatest(long[] of, int from, int to) {
        long greatest = of[from];
        for (int k = from + 1; k <= to; k++) {
            greatest = Math.max(greatest, of[k]);
        }
        return greatest;
    }

    private static long least(long[] of, int from, int to) {
        long least = of[from];
        for (int k = from + 1; k <= to; k++) {
            least = Math.min(least, of[k]);
        }
        return least;
    }

    private static long second(long[] of, int from, int to) {
        long greatest = greatest(of, from, to);
        long second = LOST;
        for (int k = from; k <= to; k++) {
            if (of[k] < greatest) {
                second = Math.max(second, of[k]);
            }
        }
        return second;
    }

    private static int howManyFrom(long[] of, int from, int to, long v) {
        int many = 0;
        for (int k = from; k <= to; k++) {
            if (of[k] >= v) {
                many++;
            }
        }
        return many;
    }

    private static int howManyGreatest(long[] of, int from, int to) {
        return howManyFrom(of, from, to, greatest(of, from, to));
    }

    private static int howManyUnlike(long[] of, int from, int to) {
        int unlike = 0;
        for (int k = from; k <= to; k++) {
            if (!standsAhead(of, from, k)) {
                unlike++;
            }
        }
        return unlike;
    }

    private static boolean standsAhead(long[] of, int from, int k) {
        for (int j = from; j < k; j++) {
            if (of[j] == of[k]) {
                return true;
            }
        }
        return false;
    }

    // ---- parts

    private static final class Sheet {
        boolean hasRow = false;
        int lane = BYTES;
        int length = 0;
        final int[] cells = new int[LONGEST_SHEET];

        void getRow(int ofLane, int n) {
            hasRow = true;
            lane = ofLane;
            length = n;
            Arrays.fill(cells, 0);
        }

        boolean loseRow() {
            boolean had = hasRow;
            hasRow = false;
            length = 0;
            return had;
        }

        int faultTakenAs(int ofLane) {
            if (!hasRow) {
                return NULL;
            }
            return lane != ofLane ? CAST : 0;
        }

        /** Written without i + n, which could wrap. */
        boolean hasCells(int i, int n) {
            return i >= 0 && i <= length && n >= 0 && n <= length - i;
        }

        /** NONE, which is no code, where there is no cell. */
        int code(int i) {
            return i >= 0 && i < length ? cells[i] : NONE;
        }

        int cut(int v) {
            switch (lane) {
                case BYTES: return (byte) v;
                case SHORTS: return (short) v;
                default: return v;
            }
        }
    }

    /** The latest text that was read; only one without a fault is taken from here. */
    private static final class Text {
        int cells = 0;
        final int[] digit = new int[MOST_CELLS];
        final Helpers helpers = new Helpers();

        /** The first fault, or NONE. A text that ends too soon has it where the missing code would stand. */
        int firstFault(Sheet from, int i, int n) {
            cells = 0;
            helpers.count = 0;
            if (codeOf(from, i, n, 0) != 'r') {
                return 0;
            }
            readDigits(from, i, n);
            return cells == 0 ? 1 : firstFaultOfHelpers(from, i, n);
        }

        private void readDigits(Sheet from, int i, int n) {
            for (int k = 0; k < MOST_CELLS; k++) {
                int code = codeOf(from, i, n, 1 + k);
                if (!isDigit(code)) {
                    return;
                }
                digit[k] = code - '0';
                cells = k + 1;
            }
        }

        private int firstFaultOfHelpers(Sheet from, int i, int n) {
            int place = 1 + cells;
            for (int h = 0; h < MOST_HELPERS && place < n; h++) {
                int kind = kindOf(codeOf(from, i, n, place + 1));
                int code = codeOf(from, i, n, place + 2);
                if (codeOf(from, i, n, place) != ';') {
                    return place;
                }
                if (kind == NONE) {
                    return place + 1;
                }
                if (!isDigit(code)) {
                    return place + 2;
                }
                helpers.join(kind, code - '0');
                place += 3;
            }
            return place < n ? place : NONE;
        }

        private static int codeOf(Sheet from, int i, int n, int place) {
            return place < n ? from.code(i + place) : NONE;
        }

        private static boolean isDigit(int code) {
            return code >= '0' && code <= '9';
        }

        private static int kindOf(int code) {
            switch (code) {
                case 'p': return PLAIN;
                case 'b': return BROAD;
                case 'd': return DOUBLE;
                default: return NONE;
            }
        }
    }

    private static final class Helpers {
        int count = 0;
        final int[] kind = new int[MOST_HELPERS];
        final int[] pace = new int[MOST_HELPERS];

        boolean has(long h) {
            return h >= 0 && h < count;
        }

        void join(int ofKind, int ofPace) {
            if (count < MOST_HELPERS) {
                kind[count] = ofKind;
                pace[count] = ofPace;
                count++;
            }
        }

        void becomeLike(Helpers others) {
            count = others.count;
            System.arraycopy(others.kind, 0, kind, 0, MOST_HELPERS);
            System.arraycopy(others.pace, 0, pace, 0, MOST_HELPERS);
        }

        int strength(long h) {
            if (!has(h)) {
                return 0;
            }
            int own = pace[(int) h];
            switch (kind[(int) h]) {
                case BROAD: return own + 1;
                case DOUBLE: return 2 * own;
                default: return own;
            }
        }
    }

    private static final class Act {
        int sort = ADDS;
        int from = 0;
        int to = 0;
        /** The helper's number, where a helper does it: what he adds is his strength when it is asked for. */
        long v = 0;

        void become(int ofSort, int first, int last, long number) {
            sort = ofSort;
            from = first;
            to = last;
            v = number;
        }

        boolean isHelp() {
            return sort == LIFTS || sort == LOWERS;
        }

        long amount(Helpers by) {
            switch (sort) {
                case LIFTS: return by.strength(v);
                case LOWERS: return -by.strength(v);
                default: return v;
            }
        }
    }

    private static final class Log {
        int count = 0;
        final Act[] acts = new Act[MOST_ACTS];

        Log() {
            for (int a = 0; a < MOST_ACTS; a++) {
                acts[a] = new Act();
            }
        }

        /** Null, if there is no room for one more. */
        Act next() {
            if (count >= MOST_ACTS) {
                return null;
            }
            count++;
            return acts[count - 1];
        }

        int actsOf(int h) {
            int own = 0;
            for (int a = 0; a < count; a++) {
                if (acts[a].isHelp() && acts[a].v == h) {
                    own++;
                }
            }
            return own;
        }
    }

    private static final class Numbers {
        int count = 0;
        final long[] number = new long[MOST_CELLS];
        final long[] historic = new long[MOST_CELLS];

        boolean areThere() {
            return count > 0;
        }

        boolean has(int k) {
            return k >= 0 && k < count;
        }

        void forgetWhatWas() {
            System.arraycopy(number, 0, historic, 0, MOST_CELLS);
        }

        void becomeLike(Numbers others) {
            count = others.count;
            System.arraycopy(others.number, 0, number, 0, MOST_CELLS);
            forgetWhatWas();
        }

        /** How many became others. */
        int suffer(Act act, Helpers by) {
            if (!has(act.from) || !has(act.to)) {
                return 0;
            }
            long amount = act.amount(by);
            int others = 0;
            for (int k = act.from; k <= act.to; k++) {
                long next = changed(number[k], act.sort, amount);
                if (next != number[k]) {
                    others++;
                }
                number[k] = next;
                historic[k] = Math.max(historic[k], next);
            }
            return others;
        }

        private static long changed(long from, int sort, long amount) {
            switch (sort) {
                case CAPS: return Math.min(from, amount);
                case FLOORS: return Math.max(from, amount);
                default: return from + amount;
            }
        }
    }

    private static final class Spans {
        final int[] first = new int[SPAN_NUMBERS];
        /** Ahead of the first one where there is no such span. */
        final int[] last = new int[SPAN_NUMBERS];

        Spans() {
            Arrays.fill(last, -1);
        }

        boolean has(int s) {
            return s >= 1 && s < SPAN_NUMBERS && first[s] <= last[s];
        }

        void halve(int cells) {
            last[1] = cells - 1;
            for (int s = 2; s < SPAN_NUMBERS; s++) {
                int whole = s / 2;
                if (first[whole] >= last[whole]) {
                    first[s] = 0;
                    last[s] = -1;
                    continue;
                }
                int halfway = (first[whole] + last[whole]) / 2;
                boolean ahead = s % 2 == 0;
                first[s] = ahead ? first[whole] : halfway + 1;
                last[s] = ahead ? halfway : last[whole];
            }
        }

        int count() {
            int many = 0;
            for (int s = 1; s < SPAN_NUMBERS; s++) {
                if (has(s)) {
                    many++;
                }
            }
            return many;
        }
    }

    private static final class Readings {
        int count = 0;
        final int[] cell = new int[MOST_READINGS];
        final long[] value = new long[MOST_READINGS];

        /** Its number, or FULL. */
        int keep(int k, long v) {
            if (count >= MOST_READINGS) {
                return FULL;
            }
            cell[count] = k;
            value[count] = v;
            count++;
            return count - 1;
        }

        boolean areSoBy(Numbers numbers) {
            for (int r = 0; r < count; r++) {
                if (!numbers.has(cell[r]) || numbers.number[cell[r]] != value[r]) {
                    return false;
                }
            }
            return true;
        }
    }
}
