import java.util.Random;

/** Runs of calls by numbers that are drawn from fixed seeds, each answer compared with the Model's. */
public final class RandomTest {
    private static final int RUNS = 3000, CALLS = 512;
    private static final int[] FAR = {Integer.MIN_VALUE, Integer.MAX_VALUE, -1000, 1000};
    private static final long[] FAR_LONG = {
        1000000000000L, 1000000000001L, -1000000000000L, -1000000000001L, 1000000000000000L, 1000000000000001L,
        -1000000000000000L, -1000000000000001L, Long.MAX_VALUE, Long.MIN_VALUE};

    private final Random draw;
    private final CappedRow x = new CappedRow();
    private final Model m = new Model();
    private final String name;
    private int calls = 0;

    private RandomTest(int run) {
        draw = new Random(run);
        name = "run " + run;
    }

    public static void main(String[] args) {
        for (int run = 0; run < RUNS; run++) {
            new RandomTest(run).go();
        }
        Due.end("RandomTest");
    }

    private void go() {
        if (draw.nextInt(8) != 0) {
            text();
        }
        while (calls < CALLS - 100) {
            int sort = draw.nextInt(40);
            if (sort == 0) {
                text();
            } else if (sort <= 2) {
                tellDay();
            } else if (sort <= 18) {
                rowCalls(sort);
            } else {
                sheetCalls(sort);
            }
            due("fault()", x.fault(), m.fault());
        }
        for (int k = 0; k < 16; k++) {
            due("at(" + k + ", 0)", x.at(k, 0), m.at(k, 0));
            due("at(" + k + ", 1)", x.at(k, 1), m.at(k, 1));
        }
        for (int s = 0; s < 33; s++) {
            due("ofSpan(" + s + ", 3)", x.ofSpan(s, 3), m.ofSpan(s, 3));
        }
    }

    private void due(String call, long got, long want) {
        calls++;
        Due.is(name + ", call " + calls + ": " + call, got, want);
    }

    /** Mostly 0 .. most, at times just beside it or far away. */
    private int upTo(int most) {
        int odd = draw.nextInt(40);
        if (odd == 0) {
            return FAR[draw.nextInt(FAR.length)];
        }
        return odd == 1 ? -1 : odd == 2 ? most + 1 : draw.nextInt(most + 1);
    }

    private long number() {
        int odd = draw.nextInt(30);
        return odd == 0 ? FAR_LONG[draw.nextInt(FAR_LONG.length)] : draw.nextInt(25) - 8;
    }

    private void put(int sheet, int i, int v) {
        due("put(" + sheet + ", " + i + ", " + v + ")", x.put(sheet, i, v), m.put(sheet, i, v));
    }

    private void write(int sheet, int lane, int[] cells) {
        due("sheet(" + sheet + ", " + lane + ")", x.sheet(sheet, lane, cells.length),
            m.sheet(sheet, lane, cells.length));
        for (int i = 0; i < cells.length; i++) {
            put(sheet, i, cells[i]);
        }
    }

    private void text() {
        StringBuilder text = new StringBuilder("r");
        int cells = 1 + draw.nextInt(16);
        for (int k = 0; k < cells; k++) {
            text.append((char) ('0' + draw.nextInt(10)));
        }
        int helpers = draw.nextInt(4);
        for (int h = 0; h < helpers; h++) {
            text.append(';').append("pbd".charAt(draw.nextInt(3))).append((char) ('0' + draw.nextInt(10)));
        }
        if (draw.nextInt(5) == 0) {
            spoil(text);
        }
        int lane = draw.nextInt(3);
        int sheet = draw.nextInt(4);
        write(sheet, lane, Due.codes(text.toString()));
        int length = text.length();
        due("row of " + text, x.row(sheet, lane, 0, length), m.row(sheet, lane, 0, length));
    }

    private void spoil(StringBuilder text) {
        int place = draw.nextInt(text.length());
        switch (draw.nextInt(4)) {
            case 0 -> text.setLength(place);
            case 1 -> text.setCharAt(place, "r;pbd0x/:".charAt(draw.nextInt(9)));
            case 2 -> text.append(";p1");
            default -> text.insert(place, "r;pbd059".charAt(draw.nextInt(8)));
        }
    }

    private void tellDay() {
        int n = draw.nextInt(5);
        int[] cells = new int[4 * n];
        int last = Math.max(0, m.many(0) - 1);
        for (int a = 0; a < n; a++) {
            cells[4 * a] = draw.nextInt(40) == 0 ? 5 : draw.nextInt(5);
            int from = draw.nextInt(last + 1);
            cells[4 * a + 1] = from;
            cells[4 * a + 2] = draw.nextInt(20) == 0 ? draw.nextInt(17) : from + draw.nextInt(last - from + 1);
            boolean help = cells[4 * a] >= 3 && draw.nextInt(10) != 0;
            cells[4 * a + 3] = help ? draw.nextInt(Math.max(1, m.many(1))) : draw.nextInt(30) - 10;
        }
        int lane = draw.nextInt(3);
        write(1, lane, cells);
        for (int t = 0; t < 4; t++) {
            int what = draw.nextBoolean() ? upTo(4) : upTo(25);
            due("day of " + n + " acts, " + what, x.day(1, lane, 0, n, what), m.day(1, lane, 0, n, what));
        }
    }

    private void rowCalls(int sort) {
        int last = Math.max(0, m.many(0) - 1);
        int a = upTo(last);
        int b = draw.nextInt(12) != 0 && a >= 0 && a <= last ? a + draw.nextInt(last - a + 1) : upTo(last);
        int h = upTo(Math.max(0, m.many(1) - 1));
        long v = number();
        String of = "(" + a + ", " + b + ", " + v + ")";
        switch (sort) {
            case 3 -> due("add" + of, x.add(a, b, v), m.add(a, b, v));
            case 4 -> due("cap" + of, x.cap(a, b, v), m.cap(a, b, v));
            case 5 -> due("floor" + of, x.floor(a, b, v), m.floor(a, b, v));
            case 6, 7 -> {
                int way = upTo(1);
                due("help " + h + " " + way + of, x.help(h, a, b, way), m.help(h, a, b, way));
            }
            case 8 -> {
                if (draw.nextInt(4) == 0) {
                    due("fresh()", x.fresh(), m.fresh());
                }
            }
            case 9, 10 -> {
                int what = upTo(7);
                due("ask " + what + of, x.ask(a, b, what), m.ask(a, b, what));
            }
            case 11 -> {
                int s = upTo(31);
                int what = upTo(6);
                due("ofSpan(" + s + ", " + what + ")", x.ofSpan(s, what), m.ofSpan(s, what));
            }
            case 12 -> due("looks" + of, x.looks(a, b, v), m.looks(a, b, v));
            case 13 -> due("unlike()", x.unlike(), m.unlike());
            case 14 -> {
                long seen = draw.nextInt(6) == 0 || m.at(a, 0) == Due.LOST ? v : m.at(a, 0);
                due("reading(" + a + ", " + seen + ")", x.reading(a, seen), m.reading(a, seen));
            }
            case 15 -> {
                int n = draw.nextInt(3) == 0 ? upTo(9) : upTo(1);
                due("back(" + n + ")", x.back(n), m.back(n));
            }
            case 16 -> due("kinds(" + h + ")", x.kinds(h), m.kinds(h));
            case 17 -> due("paces(" + h + ")", x.paces(h), m.paces(h));
            default -> {
                int which = upTo(1);
                due("odds " + which + of, x.odds(a, b, v, which), m.odds(a, b, v, which));
            }
        }
    }

    private void sheetCalls(int sort) {
        int k = upTo(3);
        int other = upTo(3);
        int lane = upTo(2);
        int i = upTo(12);
        int j = upTo(12);
        int n = upTo(12);
        int h = upTo(Math.max(0, m.many(1) - 1));
        String of = "(" + k + ", " + i + ", " + other + ", " + j + ", " + n + "; " + lane + ")";
        switch (sort) {
            case 19 -> due("sheet" + of, x.sheet(k, lane, n), m.sheet(k, lane, n));
            case 20 -> due("sheet of 60" + of, x.sheet(k, lane, upTo60(n)), m.sheet(k, lane, upTo60(n)));
            case 21 -> due("lose" + of, x.lose(k), m.lose(k));
            case 22, 23, 24 -> put(k, i, draw.nextInt());
            case 25, 26, 27 -> due("cell" + of, x.cell(k, i, lane), m.cell(k, i, lane));
            case 28, 29, 30, 31 -> due("copy" + of, x.copy(k, i, other, j, n / 2), m.copy(k, i, other, j, n / 2));
            case 32 -> due("tell(" + h + ")", x.tell(h), m.tell(h));
            case 33 -> due("cheer(" + h + ")", x.cheer(h), m.cheer(h));
            case 34 -> due("as(" + h + ", " + lane + ")", x.as(h, lane), m.as(h, lane));
            case 35 -> due("trace()", x.trace(), m.trace());
            case 36 -> due("row" + of, x.row(k, lane, i, n), m.row(k, lane, i, n));
            case 37 -> due("day" + of, x.day(k, lane, i, n / 3, j), m.day(k, lane, i, n / 3, j));
            case 38 -> due("ofHelper(" + h + ", " + k + ")", x.ofHelper(h, k), m.ofHelper(h, k));
            default -> due("many(" + other + ")", x.many(other + 1), m.many(other + 1));
        }
    }

    private static int upTo60(int n) {
        return n > 12 ? n : 48 + n;
    }
}
