import java.util.function.Supplier;

/** Promise 10, day: the edges that the document names. */
public final class Promise10Test {
    private static final int[] ANSWERS = {0, 1, 2, 3, 4, 10, 14, 15, 25};

    public static void main(String[] args) {
        Promise day = new Promise(10);
        day.says("A DAY of n fours, that are cells of a SHEET from i on (4 n)", Promise10Test::fours);
        day.says("(nothing is changed, THE LOG neither)", Promise10Test::nothingIsChanged);
        day.says("NUMBER of a CELL k then (what 10 and k; LOST: there is no such CELL)", Promise10Test::cells);
        day.says("the sum of all (what 0), its FIRST WRONG (1; NONE), the greatest of all then (2), the least (3)",
            Promise10Test::emptyDay);
        day.says("the greatest of all then (2), the least (3)", Promise10Test::extremesAtEachPlace);
        day.says("the greatest that any ever had in it (4; now, too)", Promise10Test::greatestInIt);
        day.says("sort 0 ADD, 1 CAP, 2 FLOOR; 3, 4: the HELPER of that number LIFTS, LOWERS", Promise10Test::sorts);
        day.says("there is no such CELL", Promise10Test::noSuchCell);
        day.says("there is no such CELL, HELPER", Promise10Test::noSuchHelper);
        day.says("the RUN goes back", Promise10Test::runGoesBack);
        day.says("FIRST WRONG: the first act that can't be", Promise10Test::firstOfWrongs);
        day.says("of one with a FIRST WRONG: -100 less that (but what 1)", Promise10Test::answersOfAWrongDay);
        day.says("from how all is now", Promise10Test::fullLogIsNoMatter);
        day.says("LOST: UNKNOWN: SHEET", Promise10Test::unknown);
        day.says("OUTSIDE: lane", Promise10Test::outsideLane);
        day.says("n (0 .. 12)", Promise10Test::outsideN);
        day.says("what (0 .. 4, 10 .. 25)", Promise10Test::outsideWhat);
        day.says("FAULTS CAST, NULL", Promise10Test::castAndNull);
        day.says("INDEX", Promise10Test::index);
        day.says("where i is not 0 .. how many there are, if none of them is taken, too", Promise10Test::noneTaken);
        day.says("STATE: there is no ROW", Promise10Test::noRow);
        day.says("OUTSIDE: a sort is not 0 .. 4", Promise10Test::outsideSort);
        day.says("Of a call the first that is come to, in the order told", Promise10Test::order);
        day.end();
    }

    /** As busy(), NUMBERS 9 12 6 7 8, with such a DAY on SHEET 3. */
    private static Supplier<CappedRow> busyWith(int lane, int... cells) {
        return () -> {
            CappedRow x = Made.busy();
            Due.write(x, 3, lane, cells);
            return x;
        };
    }

    private static void answers(String what, CappedRow x, int n, long sum, long greatest, long least, long everGreatest) {
        Due.isWithout(what + ", sum", x, x.day(3, 2, 0, n, 0), sum);
        Due.isWithout(what + ", first wrong", x, x.day(3, 2, 0, n, 1), Due.NONE);
        Due.isWithout(what + ", greatest", x, x.day(3, 2, 0, n, 2), greatest);
        Due.isWithout(what + ", least", x, x.day(3, 2, 0, n, 3), least);
        Due.isWithout(what + ", greatest in it", x, x.day(3, 2, 0, n, 4), everGreatest);
    }

    private static void isWrong(String what, CappedRow x, int n, int first) {
        for (int asked : ANSWERS) {
            Due.isWithout(what + ", what " + asked, x, x.day(3, 2, 0, n, asked), asked == 1 ? first : -100 - first);
        }
    }

    private static int[] twelveAdds() {
        int[] cells = new int[60];
        for (int a = 0; a < 12; a++) {
            cells[4 * a + 2] = 4;
            cells[4 * a + 3] = 1 << a;
        }
        return cells;
    }

    private static void fours() {
        CappedRow x = busyWith(2, twelveAdds()).get();
        for (int n = 0; n <= 12; n++) {
            Due.isWithout(n + " fours", x, x.day(3, 2, 0, n, 10), 9 + (1 << n) - 1);
        }
        Due.isWithout("from the last four on", x, x.day(3, 2, 44, 1, 10), 9 + (1 << 11));
        Due.isWithout("12 fours at its end", x, x.day(3, 2, 12, 12, 10), 9 + 4096 - 8);
    }

    private static void nothingIsChanged() {
        int[] cells = {0, 0, 4, 50, 3, 0, 4, 2, 2, 1, 1, 99, 4, 0, 0, 1, 1, 0, 4, -5};
        for (int what : ANSWERS) {
            long due = busyWith(2, cells).get().day(3, 2, 0, 5, what);
            Twins.refuses("what " + what, busyWith(2, cells), x -> x.day(3, 2, 0, 5, what), due);
        }
        int[] wrong = {0, 0, 4, 50, 3, 0, 4, 2, 0, 0, 5, 1};
        for (int what : ANSWERS) {
            long due = what == 1 ? 2 : -102;
            Twins.refuses("wrong, what " + what, busyWith(2, wrong), x -> x.day(3, 2, 0, 3, what), due);
        }
        Due.is("all capped then", busyWith(2, cells).get().day(3, 2, 0, 5, 0), -25);
    }

    private static void cells() {
        CappedRow x = busyWith(2, 0, 0, 4, 1).get();
        long[] due = {10, 13, 7, 8, 9};
        for (int k = 0; k <= 4; k++) {
            Due.isWithout("cell " + k, x, x.day(3, 2, 0, 1, 10 + k), due[k]);
        }
        for (int k = 5; k <= 15; k++) {
            Due.isLost("no cell " + k, x, x.day(3, 2, 0, 1, 10 + k), 0);
        }
        CappedRow all = Made.ofCells(16);
        all.sheet(3, 2, 0);
        Due.isWithout("the last of 16", all, all.day(3, 2, 0, 0, 25), 6);
        Due.isLost("none behind it", all, all.day(3, 2, 0, 0, 26), 0);
        CappedRow one = Made.ofCells(1);
        one.sheet(3, 2, 0);
        Due.isWithout("the only one", one, one.day(3, 2, 0, 0, 10), 1);
        Due.isLost("none behind it", one, one.day(3, 2, 0, 0, 11), 0);
    }

    private static void emptyDay() {
        answers("no acts", busyWith(2).get(), 0, 42, 12, 6, 12);
        answers("an act that changes nothing", busyWith(2, 0, 0, 4, 0).get(), 1, 42, 12, 6, 12);
        CappedRow one = Made.ofCells(1);
        Due.write(one, 3, 2, 0, 0, 0, -3);
        answers("one cell", one, 1, -2, -2, -2, 1);
        CappedRow far = busyWith(2, 0, 0, 4, Integer.MAX_VALUE, 0, 0, 4, Integer.MAX_VALUE).get();
        answers("more than an int", far, 2, 42 + 10L * Integer.MAX_VALUE, 12 + 2L * Integer.MAX_VALUE,
            6 + 2L * Integer.MAX_VALUE, 12 + 2L * Integer.MAX_VALUE);
        CappedRow low = busyWith(2, 0, 0, 4, Integer.MIN_VALUE, 0, 0, 4, Integer.MIN_VALUE).get();
        answers("less than an int", low, 2, 42 + 10L * Integer.MIN_VALUE, 12 + 2L * Integer.MIN_VALUE,
            6 + 2L * Integer.MIN_VALUE, 12);
    }

    private static void extremesAtEachPlace() {
        for (int k = 0; k < 16; k++) {
            CappedRow x = Due.of("r" + "5".repeat(16));
            Due.write(x, 3, 2, 0, k, k, 1, 0, k, k, -2);
            answers("greatest at " + k, x, 1, 81, 6, 5, 6);
            answers("least at " + k, x, 2, 79, 5, 4, 6);
        }
    }

    private static void greatestInIt() {
        CappedRow x = busyWith(2, 0, 1, 1, -5).get();
        Due.is("now, though less than what was greatest ahead of it", x.day(3, 2, 0, 1, 4), 12);
        x = busyWith(2, 0, 1, 1, 3, 1, 0, 4, 1).get();
        Due.is("in between", x.day(3, 2, 0, 2, 4), 15);
        Due.is("then", x.day(3, 2, 0, 2, 2), 1);
        x = busyWith(2, 1, 0, 4, -1, 0, 0, 4, 20).get();
        Due.is("at the end", x.day(3, 2, 0, 2, 4), 19);
        x = busyWith(2, 0, 2, 2, 5, 1, 0, 4, 1).get();
        Due.is("one that is not the greatest's", x.day(3, 2, 0, 2, 4), 12);
        Due.is("below 0", lowered().day(3, 2, 0, 1, 4), -88);
    }

    private static CappedRow lowered() {
        CappedRow x = busyWith(2, 0, 0, 4, -1).get();
        x.add(0, 4, -100);
        return x;
    }

    private static void sorts() {
        int[] amounts = {5, 7, 8, 0, 2};
        long[] due = {42 + 25, 7 + 7 + 6 + 7 + 7, 9 + 12 + 8 + 8 + 8, 42 + 5 * 3, 42 - 5 * 4};
        for (int sort = 0; sort <= 4; sort++) {
            CappedRow x = busyWith(2, sort, 0, 4, amounts[sort]).get();
            Due.isWithout("sort " + sort, x, x.day(3, 2, 0, 1, 0), due[sort]);
        }
        CappedRow x = busyWith(2, 1, 0, 4, 8, 2, 0, 4, 8).get();
        Due.is("cap and floor of the same number", x.day(3, 2, 0, 2, 0), 40);
        Due.is("a broad one lifts", busyWith(2, 3, 0, 0, 1).get().day(3, 2, 0, 1, 10), 11);
    }

    /** Each CELL of an act just inside, just outside, of each sort. */
    private static void noSuchCell() {
        int[][] none = {{-1, 4}, {5, 5}, {0, 5}, {0, -1}, {-1, -1}, {5, 0}, {Edge.LEAST, 0}, {0, Edge.MOST}};
        int[][] there = {{0, 4}, {0, 0}, {4, 4}};
        for (int sort = 0; sort <= 4; sort++) {
            for (int[] run : none) {
                isWrong("sort " + sort, busyWith(2, sort, run[0], run[1], 0).get(), 1, 0);
            }
            for (int[] run : there) {
                CappedRow x = busyWith(2, sort, run[0], run[1], 0).get();
                Due.isWithout("sort " + sort, x, x.day(3, 2, 0, 1, 1), Due.NONE);
            }
        }
    }

    private static void noSuchHelper() {
        int[] none = {-1, 3, Edge.LEAST, Edge.MOST};
        for (int sort = 0; sort <= 4; sort++) {
            for (int h : none) {
                CappedRow x = busyWith(2, sort, 0, 4, h).get();
                if (sort >= 3) {
                    isWrong("sort " + sort + ", helper " + h, x, 1, 0);
                } else {
                    Due.isWithout("sort " + sort + " of any number", x, x.day(3, 2, 0, 1, 1), Due.NONE);
                }
            }
            for (int h = 0; h <= 2; h++) {
                CappedRow x = busyWith(2, sort, 0, 4, h).get();
                Due.isWithout("sort " + sort + ", helper " + h, x, x.day(3, 2, 0, 1, 1), Due.NONE);
            }
        }
        CappedRow without = Due.of("r12345");
        Due.write(without, 3, 2, 3, 0, 0, 0);
        isWrong("a row without helpers", without, 1, 0);
    }

    private static void runGoesBack() {
        int[][] back = {{1, 0}, {4, 3}, {4, 0}};
        for (int sort = 0; sort <= 4; sort++) {
            for (int[] run : back) {
                isWrong("sort " + sort, busyWith(2, sort, run[0], run[1], 0).get(), 1, 0);
            }
        }
    }

    private static void firstOfWrongs() {
        for (int first = 0; first <= 11; first++) {
            int[] cells = twelveAdds();
            cells[4 * first + 1] = 5;
            CappedRow x = busyWith(2, cells).get();
            isWrong("act " + first + " of 12", x, 12, first);
            Due.isWithout("those ahead of it", x, x.day(3, 2, 0, first, 1), Due.NONE);
        }
        isWrong("the first of two", busyWith(2, 0, 0, 4, 1, 0, 1, 0, 1, 3, 0, 0, 3).get(), 3, 1);
    }

    private static void answersOfAWrongDay() {
        int[] cells = new int[8];
        cells[5] = 5;
        CappedRow x = busyWith(2, cells).get();
        isWrong("a cell that is not there is no matter then", x, 2, 1);
        Due.isLost("but what is asked is looked at", x, x.day(3, 2, 0, 2, 5), 0);
        Due.isLost("but what is asked is looked at", x, x.day(3, 2, 0, 2, 26), 0);
    }

    private static void fullLogIsNoMatter() {
        CappedRow x = Made.withFullLog();
        Due.write(x, 3, 2, twelveAdds());
        Due.isWithout("12 acts", x, x.day(3, 2, 0, 12, 10), 9 + 4095);
        x.fresh();
        x.add(0, 0, 1);
        Due.isWithout("from another now", x, x.day(3, 2, 0, 12, 10), 10 + 4095);
    }

    private static void lost(String what, Supplier<CappedRow> made, int[] c, int fault) {
        Twins.changesFaultAlone(what, made, x -> x.day(c[0], c[1], c[2], c[3], c[4]), Due.LOST, fault);
    }

    private static int[] asked(int sheet, int lane, int i, int n, int what) {
        return new int[] {sheet, lane, i, n, what};
    }

    private static void unknown() {
        int[] none = {-1, 4, Edge.LEAST, Edge.MOST};
        for (int sheet : none) {
            lost("sheet " + sheet, Made::busy, asked(sheet, 2, 0, 1, 0), 0);
        }
        for (int k = 0; k <= 3; k++) {
            CappedRow x = Made.busy();
            x.sheet(k, 1, 4);
            Due.isWithout("sheet " + k, x, x.day(k, 1, 0, 1, 0), 42);
        }
    }

    private static void outsideLane() {
        int[] none = {-1, 3, Edge.LEAST, Edge.MOST};
        for (int lane : none) {
            lost("lane " + lane, Made::busy, asked(2, lane, 0, 1, 0), 0);
        }
        for (int lane = 0; lane <= 2; lane++) {
            CappedRow x = busyWith(lane, 0, 0, 0, 200).get();
            Due.isWithout("lane " + lane, x, x.day(3, lane, 0, 1, 10), 9 + (lane == 0 ? 200 - 256 : 200));
        }
    }

    private static void outsideN() {
        int[] none = {-1, 13, Edge.LEAST, Edge.MOST, 1 << 30, 1 << 29};
        for (int n : none) {
            lost("n " + n, busyWith(2, new int[60]), asked(3, 2, 0, n, 0), 0);
        }
        CappedRow x = busyWith(2, new int[60]).get();
        Due.isWithout("n 0", x, x.day(3, 2, 0, 0, 0), 42);
        Due.isWithout("n 12", x, x.day(3, 2, 0, 12, 0), 42);
    }

    private static void outsideWhat() {
        int[] none = {-1, 5, 6, 9, 26, 27, Edge.LEAST, Edge.MOST};
        for (int what : none) {
            lost("what " + what, Made::busy, asked(2, 2, 0, 1, what), 0);
            lost("what " + what + " of a day with a first wrong", Made::busy, asked(2, 2, 1, 1, what), 0);
        }
        int[] there = {0, 1, 2, 3, 4, 10, 14};
        for (int what : there) {
            Due.isSo("what " + what, Made.busy().day(2, 2, 0, 1, what) != Due.LOST);
        }
    }

    private static void castAndNull() {
        for (int k = 0; k <= 2; k++) {
            for (int lane = 0; lane <= 2; lane++) {
                if (lane != k) {
                    lost("lane " + k + " as " + lane, Made::busy, asked(k, lane, 0, 1, 0), 2);
                }
            }
            lost("nothing as " + k, Made::busy, asked(3, k, 0, 1, 0), 1);
            lost("nothing as " + k + ", no acts", Made::busy, asked(3, k, 0, 0, 0), 1);
        }
        lost("an empty row as another", busyWith(1), asked(3, 2, 0, 0, 0), 2);
    }

    private static void index() {
        int[][] beyond = {{-1, 1}, {1, 2}, {5, 1}, {0, 3}, {8, 1}, {Edge.MOST, 12}, {Edge.MOST - 3, 1}, {Edge.LEAST, 1}};
        for (int[] b : beyond) {
            lost("i " + b[0] + ", n " + b[1], Made::busy, asked(2, 2, b[0], b[1], 0), 3);
        }
        CappedRow x = Made.busy();
        Due.isWithout("all cells", x, x.day(2, 2, 0, 2, 0), 42 + 10 + 8);
        Due.isWithout("the last four", x, x.day(2, 2, 4, 1, 0), 42 + 8);
        lost("one cell less than it takes", busyWith(2, new int[47]), asked(3, 2, 0, 12, 0), 3);
        CappedRow enough = busyWith(2, new int[48]).get();
        Due.isWithout("as many as it takes", enough, enough.day(3, 2, 0, 12, 0), 42);
    }

    private static void noneTaken() {
        int[] beyond = {-1, 9, Edge.LEAST, Edge.MOST};
        for (int i : beyond) {
            lost("i " + i, Made::busy, asked(2, 2, i, 0, 0), 3);
        }
        CappedRow x = Made.busy();
        Due.isWithout("i 0", x, x.day(2, 2, 0, 0, 0), 42);
        Due.isWithout("i 8, how many there are", x, x.day(2, 2, 8, 0, 0), 42);
        lost("i 1 of an empty row", busyWith(2), asked(3, 2, 1, 0, 0), 3);
        CappedRow empty = busyWith(2).get();
        Due.isWithout("i 0 of an empty row", empty, empty.day(3, 2, 0, 0, 0), 42);
    }

    private static void noRow() {
        for (int what : ANSWERS) {
            lost("what " + what, Made::withoutRow, asked(2, 2, 0, 1, what), 0);
            lost("no acts, what " + what, Made::withoutRow, asked(2, 2, 0, 0, what), 0);
        }
    }

    private static void outsideSort() {
        int[] none = {-1, 5, 99, Edge.LEAST, Edge.MOST};
        for (int sort : none) {
            for (int what : ANSWERS) {
                lost("sort " + sort, busyWith(2, sort, 0, 4, 1), asked(3, 2, 0, 1, what), 0);
            }
            lost("the last sort", busyWith(2, 0, 0, 4, 1, sort, 0, 4, 1), asked(3, 2, 0, 2, 1), 0);
            lost("a sort behind a wrong act", busyWith(2, 0, 0, 5, 1, sort, 0, 4, 1), asked(3, 2, 0, 2, 1), 0);
            CappedRow x = busyWith(2, 0, 0, 4, 1, sort, 0, 4, 1).get();
            Due.isWithout("a sort behind the day", x, x.day(3, 2, 0, 1, 0), 47);
        }
        lost("an act that is wrong by its run, too", busyWith(2, 5, 5, 5, 1), asked(3, 2, 0, 1, 1), 0);
    }

    /** Each call is wrong in all that comes behind, too. */
    private static void order() {
        lost("unknown", Made::withoutRow, asked(4, 3, -1, -1, -1), 0);
        lost("lane", Made::withoutRow, asked(3, 3, -1, 1, 0), 0);
        lost("n", Made::withoutRow, asked(2, 1, -1, 13, 0), 0);
        lost("n", Made::withoutRow, asked(2, 1, -1, -1, 0), 0);
        int[] outside = {-1, 5, 9, 26, 27, Edge.LEAST, Edge.MOST};
        for (int what : outside) {
            lost("what " + what, Made::withoutRow, asked(2, 1, -1, 1, what), 0);
        }
        lost("cast", Made::withoutRow, asked(2, 1, -1, 1, 0), 2);
        lost("null", Made::withoutRow, asked(3, 1, -1, 1, 0), 1);
        lost("index", Made::withoutRow, asked(2, 2, -1, 1, 0), 3);
        lost("index ahead of a sort", busyWith(2, 9, 0, 4, 1), asked(3, 2, 0, 2, 0), 3);
        lost("state", Made::withoutRow, asked(2, 2, 0, 1, 0), 0);
    }
}
