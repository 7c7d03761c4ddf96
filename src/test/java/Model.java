import java.lang.reflect.Array;
import java.util.ArrayList;
import java.util.Arrays;
import java.util.LinkedHashMap;
import java.util.List;
import java.util.Map;
import java.util.TreeSet;
import java.util.regex.Matcher;
import java.util.regex.Pattern;
import java.util.stream.LongStream;

/**
 * The document told a second time, by other means: Java's own arrays, casts and exceptions for the faults, classes
 * for the kinds, a pattern for the texts, recursion for the spans. RandomTest compares CappedRow with it.
 */
final class Model {
    private static final Pattern TEXT = Pattern.compile("r[0-9]{1,16}(;[pbd][0-9]){0,3}");
    private static final long LOST = Long.MIN_VALUE, FAR = 1_000_000_000_000L;

    private interface Cheered {
        Model all();

        int number();

        default int cheer() {
            all().leave(4);
            return number();
        }
    }

    private static class Plain implements Cheered {
        final Model all;
        final int number;
        final int pace;

        Plain(Model all, int number, int pace) {
            this.all = all;
            this.number = number;
            this.pace = pace;
        }

        @Override
        public Model all() {
            return all;
        }

        @Override
        public int number() {
            return number;
        }

        int strength() {
            return pace;
        }

        int kind() {
            return 0;
        }

        final int plainly() {
            all.leave(1);
            return pace;
        }

        int tell() {
            return plainly();
        }
    }

    private static class Broad extends Plain {
        Broad(Model all, int number, int pace) {
            super(all, number, pace);
        }

        @Override
        int strength() {
            return super.strength() + 1;
        }

        @Override
        int kind() {
            return 1;
        }

        @Override
        int tell() {
            all.leave(2);
            return super.tell() + 100;
        }
    }

    private static final class Twice extends Broad {
        Twice(Model all, int number, int pace) {
            super(all, number, pace);
        }

        @Override
        int strength() {
            return pace + pace;
        }

        @Override
        int kind() {
            return 2;
        }

        @Override
        int tell() {
            all.leave(3);
            return super.tell() + plainly();
        }

        @Override
        public int cheer() {
            all.leave(5);
            return 60;
        }
    }

    private record Act(int sort, int from, int to, long v) {
    }

    private record Reading(int k, long v) {
    }

    private final Object[] sheets = new Object[4];
    private long[] first = {};
    private List<Plain> helpers = new ArrayList<>();
    private final List<Act> log = new ArrayList<>();
    private final List<Reading> readings = new ArrayList<>();
    private int trace = 0;
    private int fault = 0;

    private void leave(int body) {
        trace = trace * 31 + body;
    }

    private Plain helper(int h, int kind, int pace) {
        return kind == 0 ? new Plain(this, h, pace) : kind == 1 ? new Broad(this, h, pace) : new Twice(this, h, pace);
    }

    private static void change(long[] row, Act act, List<Plain> by) {
        for (int k = act.from; k <= act.to; k++) {
            switch (act.sort) {
                case 0 -> row[k] += act.v;
                case 1 -> row[k] = row[k] > act.v ? act.v : row[k];
                case 2 -> row[k] = row[k] < act.v ? act.v : row[k];
                case 3 -> row[k] += by.get((int) act.v).strength();
                default -> row[k] -= by.get((int) act.v).strength();
            }
        }
    }

    /** All rows there were, from the first on; the last is how it is. */
    private static List<long[]> rows(long[] from, List<Act> acts, List<Plain> by) {
        List<long[]> rows = new ArrayList<>();
        rows.add(from.clone());
        for (Act act : acts) {
            long[] next = rows.get(rows.size() - 1).clone();
            change(next, act, by);
            rows.add(next);
        }
        return rows;
    }

    private long[] numbers() {
        List<long[]> rows = rows(first, log, helpers);
        return rows.get(rows.size() - 1);
    }

    private long[] historic() {
        long[] most = first.clone();
        for (long[] row : rows(first, log, helpers)) {
            for (int k = 0; k < most.length; k++) {
                most[k] = Math.max(most[k], row[k]);
            }
        }
        return most;
    }

    private static int faultOf(RuntimeException e) {
        return e instanceof NullPointerException ? 1
            : e instanceof ClassCastException || e instanceof ArrayStoreException ? 2
            : e instanceof IndexOutOfBoundsException ? 3
            : e instanceof NegativeArraySizeException ? 4 : 99;
    }

    /** The sheet's cells, copied by the machine: it tells the faults. */
    private int[] taken(int sheet, int lane, int i, int n) {
        Object row = sheets[sheet];
        Object typed = lane == 0 ? (Object) (byte[]) row : lane == 1 ? (Object) (short[]) row : (Object) (int[]) row;
        Array.getLength(typed);
        // No sheet is longer than 60: what is beyond the bound here is beyond the sheet, too.
        int[] out = new int[Math.min(n, 1000)];
        Object same = Array.newInstance(typed.getClass().getComponentType(), out.length);
        System.arraycopy(typed, i, same, 0, n);
        for (int k = 0; k < n; k++) {
            out[k] = Array.getInt(same, k);
        }
        return out;
    }

    int row(int sheet, int lane, int i, int n) {
        fault = 0;
        if (sheet < 0 || sheet > 3) {
            return -1;
        }
        if (lane < 0 || lane > 2) {
            return -2;
        }
        int[] codes;
        try {
            codes = taken(sheet, lane, i, n);
        } catch (RuntimeException e) {
            fault = faultOf(e);
            return -10 - fault;
        }
        StringBuilder text = new StringBuilder();
        for (int code : codes) {
            text.append(code >= 0 && code < 128 ? (char) code : '?');
        }
        Matcher whole = TEXT.matcher(text);
        if (!whole.matches()) {
            return -100 - firstFault(text.toString());
        }
        String[] parts = text.toString().split(";");
        first = parts[0].substring(1).chars().mapToLong(c -> c - '0').toArray();
        helpers = new ArrayList<>();
        for (int h = 1; h < parts.length; h++) {
            helpers.add(helper(h - 1, "pbd".indexOf(parts[h].charAt(0)), parts[h].charAt(1) - '0'));
        }
        log.clear();
        readings.clear();
        return first.length;
    }

    private static int firstFault(String text) {
        for (int p = 0; p < text.length(); p++) {
            Matcher part = TEXT.matcher(text.substring(0, p + 1));
            if (!part.matches() && !part.hitEnd()) {
                return p;
            }
        }
        return text.length();
    }

    private boolean hasHelper(int h) {
        return h >= 0 && h < helpers.size();
    }

    private boolean hasCell(int k) {
        return k >= 0 && k < first.length;
    }

    int ofHelper(int h, int what) {
        if (!hasHelper(h)) {
            return -1;
        }
        Plain one = helpers.get(h);
        return switch (what) {
            case 0 -> one.kind();
            case 1 -> one.pace;
            case 2 -> one.strength();
            case 3 -> (int) log.stream().filter(a -> a.sort >= 3 && a.v == h).count();
            default -> -2;
        };
    }

    long at(int k, int what) {
        return !hasCell(k) || what < 0 || what > 1 ? LOST : what == 0 ? numbers()[k] : historic()[k];
    }

    private int refused(int from, int to, boolean inside) {
        return !hasCell(from) || !hasCell(to) ? -1 : from > to || !inside ? -2 : 0;
    }

    private static boolean near(long v) {
        return v >= -FAR && v <= FAR;
    }

    private int done(int refused, Act act) {
        if (refused != 0) {
            return refused;
        }
        if (log.size() == 24) {
            return -4;
        }
        long[] before = numbers();
        log.add(act);
        long[] behind = numbers();
        int others = 0;
        for (int k = 0; k < before.length; k++) {
            others += before[k] == behind[k] ? 0 : 1;
        }
        return others;
    }

    int add(int from, int to, long v) {
        int answer = done(refused(from, to, near(v)), new Act(0, from, to, v));
        return answer < 0 ? answer : log.size();
    }

    int cap(int from, int to, long v) {
        return done(refused(from, to, near(v)), new Act(1, from, to, v));
    }

    int floor(int from, int to, long v) {
        return done(refused(from, to, near(v)), new Act(2, from, to, v));
    }

    int help(int h, int from, int to, int way) {
        int refused = !hasHelper(h) ? -1 : refused(from, to, way == 0 || way == 1);
        int answer = done(refused, new Act(4 - way, from, to, h));
        return answer < 0 ? answer : helpers.get(h).strength();
    }

    int fresh() {
        if (first.length == 0) {
            return -3;
        }
        int acts = log.size();
        first = numbers();
        log.clear();
        return acts;
    }

    long day(int sheet, int lane, int i, int n, int what) {
        fault = 0;
        if (sheet < 0 || sheet > 3 || lane < 0 || lane > 2 || n < 0 || n > 12) {
            return LOST;
        }
        if (what < 0 || what > 25 || what > 4 && what < 10) {
            return LOST;
        }
        int[] c;
        try {
            c = taken(sheet, lane, i, 4 * n);
        } catch (RuntimeException e) {
            fault = faultOf(e);
            return LOST;
        }
        if (first.length == 0) {
            return LOST;
        }
        List<Act> acts = new ArrayList<>();
        for (int a = 0; a < n; a++) {
            acts.add(new Act(c[4 * a], c[4 * a + 1], c[4 * a + 2], c[4 * a + 3]));
        }
        if (acts.stream().anyMatch(a -> a.sort < 0 || a.sort > 4)) {
            return LOST;
        }
        for (int a = 0; a < n; a++) {
            Act act = acts.get(a);
            if (refused(act.from, act.to, true) != 0 || act.sort >= 3 && !hasHelper((int) act.v)) {
                return what == 1 ? a : -100 - a;
            }
        }
        List<long[]> rows = rows(numbers(), acts, helpers);
        long[] then = rows.get(rows.size() - 1);
        return switch (what) {
            case 0 -> LongStream.of(then).sum();
            case 1 -> -9;
            case 2 -> LongStream.of(then).max().getAsLong();
            case 3 -> LongStream.of(then).min().getAsLong();
            case 4 -> rows.stream().flatMapToLong(LongStream::of).max().getAsLong();
            default -> what - 10 < then.length ? then[what - 10] : LOST;
        };
    }

    private static TreeSet<Long> unlikeOnes(long[] part) {
        TreeSet<Long> set = new TreeSet<>();
        for (long v : part) {
            set.add(v);
        }
        return set;
    }

    private static long below(long[] part) {
        Long lower = unlikeOnes(part).lower(unlikeOnes(part).last());
        return lower == null ? LOST : lower;
    }

    private static long often(long[] part) {
        return LongStream.of(part).filter(v -> v == unlikeOnes(part).last()).count();
    }

    long ask(int from, int to, int what) {
        if (refused(from, to, true) != 0) {
            return LOST;
        }
        long[] part = Arrays.copyOfRange(numbers(), from, to + 1);
        long[] was = Arrays.copyOfRange(historic(), from, to + 1);
        return switch (what) {
            case 0 -> LongStream.of(part).sum();
            case 1 -> unlikeOnes(part).last();
            case 2 -> unlikeOnes(part).first();
            case 3 -> often(part);
            case 4 -> below(part);
            case 5 -> unlikeOnes(part).size();
            case 6 -> unlikeOnes(was).last();
            case 7 -> LongStream.of(was).sum();
            default -> LOST;
        };
    }

    private void halve(Map<Integer, int[]> spans, int s, int a, int b) {
        spans.put(s, new int[] {a, b});
        if (a < b) {
            halve(spans, 2 * s, a, (a + b) / 2);
            halve(spans, 2 * s + 1, (a + b) / 2 + 1, b);
        }
    }

    private Map<Integer, int[]> spans() {
        Map<Integer, int[]> spans = new LinkedHashMap<>();
        if (first.length > 0) {
            halve(spans, 1, 0, first.length - 1);
        }
        return spans;
    }

    long ofSpan(int s, int what) {
        int[] span = spans().get(s);
        if (span == null) {
            return LOST;
        }
        return switch (what) {
            case 0 -> span[0];
            case 1 -> span[1];
            case 2 -> ask(span[0], span[1], 1);
            case 3 -> ask(span[0], span[1], 4);
            case 4 -> ask(span[0], span[1], 3);
            case 5 -> ask(span[0], span[1], 0);
            case 6 -> ask(span[0], span[1], 5);
            default -> LOST;
        };
    }

    private int into(int s, int from, int to, long v) {
        int[] span = spans().get(s);
        boolean touches = span[0] <= to && span[1] >= from;
        boolean wholly = span[0] >= from && span[1] <= to;
        long second = ofSpan(s, 3);
        boolean open = touches && ofSpan(s, 2) > v && (!wholly || second != LOST && second >= v);
        return open ? 1 + into(2 * s, from, to, v) + into(2 * s + 1, from, to, v) : 1;
    }

    int looks(int from, int to, long v) {
        int refused = refused(from, to, near(v));
        return refused != 0 ? refused : into(1, from, to, v);
    }

    int unlike() {
        return first.length == 0 ? -3 : (int) spans().keySet().stream().mapToLong(s -> ofSpan(s, 6)).sum();
    }

    int reading(int k, long v) {
        if (!hasCell(k)) {
            return -1;
        }
        if (v < -1000 * FAR || v > 1000 * FAR) {
            return -2;
        }
        if (readings.size() == 8) {
            return -4;
        }
        readings.add(new Reading(k, v));
        return readings.size() - 1;
    }

    int back(int n) {
        if (n < 0 || n > readings.size()) {
            return -2;
        }
        readings.subList(readings.size() - n, readings.size()).clear();
        return readings.size();
    }

    private boolean wouldBe(Plain other) {
        List<Plain> by = new ArrayList<>(helpers);
        by.set(other.number, other);
        List<long[]> rows = rows(first, log, by);
        long[] then = rows.get(rows.size() - 1);
        return readings.stream().allMatch(r -> then[r.k] == r.v);
    }

    int kinds(int h) {
        if (!hasHelper(h)) {
            return -1;
        }
        int set = 0;
        for (int kind = 0; kind < 3; kind++) {
            set += wouldBe(helper(h, kind, helpers.get(h).pace)) ? 1 << kind : 0;
        }
        return set;
    }

    int paces(int h) {
        if (!hasHelper(h)) {
            return -1;
        }
        int set = 0;
        for (int pace = 0; pace < 10; pace++) {
            set += wouldBe(helper(h, helpers.get(h).kind(), pace)) ? 1 << pace : 0;
        }
        return set;
    }

    long odds(int from, int to, long v, int which) {
        if (refused(from, to, which == 0 || which == 1) != 0) {
            return LOST;
        }
        long such = Arrays.stream(numbers(), from, to + 1).filter(x -> x >= v).count();
        long all = to - from + 1;
        long common = java.math.BigInteger.valueOf(such).gcd(java.math.BigInteger.valueOf(all)).longValue();
        return (which == 0 ? such : all) / common;
    }

    int sheet(int k, int lane, int n) {
        fault = 0;
        if (k < 0 || k > 3) {
            return -1;
        }
        if (lane < 0 || lane > 2 || n > 60) {
            return -2;
        }
        try {
            sheets[k] = lane == 0 ? new byte[n] : lane == 1 ? (Object) new short[n] : new int[n];
            return 1;
        } catch (NegativeArraySizeException e) {
            fault = 4;
            return -14;
        }
    }

    int lose(int k) {
        if (k < 0 || k > 3) {
            return -1;
        }
        int had = sheets[k] == null ? 0 : 1;
        sheets[k] = null;
        return had;
    }

    int put(int k, int i, int v) {
        fault = 0;
        if (k < 0 || k > 3) {
            return -1;
        }
        try {
            if (sheets[k] instanceof byte[] b) {
                b[i] = (byte) v;
            } else if (sheets[k] instanceof short[] s) {
                s[i] = (short) v;
            } else {
                ((int[]) sheets[k])[i] = v;
            }
            return 1;
        } catch (RuntimeException e) {
            fault = faultOf(e);
            return -10 - fault;
        }
    }

    long cell(int k, int i, int lane) {
        fault = 0;
        if (k < 0 || k > 3 || lane < 0 || lane > 2) {
            return LOST;
        }
        try {
            return lane == 0 ? ((byte[]) sheets[k])[i] : lane == 1 ? ((short[]) sheets[k])[i] : ((int[]) sheets[k])[i];
        } catch (RuntimeException e) {
            fault = faultOf(e);
            return LOST;
        }
    }

    int copy(int k, int i, int other, int j, int n) {
        fault = 0;
        if (k < 0 || k > 3 || other < 0 || other > 3) {
            return -1;
        }
        try {
            System.arraycopy(sheets[k], i, sheets[other], j, n);
            return n;
        } catch (RuntimeException e) {
            fault = faultOf(e);
            return -10 - fault;
        }
    }

    int tell(int h) {
        return hasHelper(h) ? helpers.get(h).tell() : -1;
    }

    int cheer(int h) {
        return hasHelper(h) ? helpers.get(h).cheer() : -1;
    }

    int as(int h, int kind) {
        fault = 0;
        if (!hasHelper(h)) {
            return -1;
        }
        if (kind < 0 || kind > 2) {
            return -2;
        }
        Class<?> taken = kind == 0 ? Plain.class : kind == 1 ? Broad.class : Twice.class;
        try {
            taken.cast(helpers.get(h));
            return 1;
        } catch (ClassCastException e) {
            fault = 2;
            return -12;
        }
    }

    int trace() {
        return trace;
    }

    int fault() {
        return fault;
    }

    int many(int what) {
        return switch (what) {
            case 0 -> first.length;
            case 1 -> helpers.size();
            case 2 -> log.size();
            case 3 -> spans().size();
            case 4 -> readings.size();
            default -> -2;
        };
    }
}
