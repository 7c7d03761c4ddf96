/** Promise 10: day. */
public final class DayTest {
    public static void main(String[] args) {
        answers();
        nothingIsChanged();
        firstWrong();
        longestDay();
        lanes();
        places();
        refusalsAndFaults();
        greatestInIt();
        Due.end("DayTest");
    }

    private static CappedRow fiveCells() {
        return Due.of("r52709;p3;b1;d2");
    }

    /** Each answer of a day that is right, told by its acts. */
    private static void isDay(String what, int[] day, long greatestInIt, long... numbers) {
        CappedRow x = fiveCells();
        Due.write(x, 1, 2, day);
        int n = day.length / 4;
        long sum = 0;
        long greatest = numbers[0];
        long least = numbers[0];
        for (int k = 0; k < numbers.length; k++) {
            Due.isWithout(what + ", cell " + k, x, x.day(1, 2, 0, n, 10 + k), numbers[k]);
            sum += numbers[k];
            greatest = Math.max(greatest, numbers[k]);
            least = Math.min(least, numbers[k]);
        }
        Due.is(what + ", sum", x.day(1, 2, 0, n, 0), sum);
        Due.isWithout(what + ", first wrong", x, x.day(1, 2, 0, n, 1), Due.NONE);
        Due.is(what + ", greatest", x.day(1, 2, 0, n, 2), greatest);
        Due.is(what + ", least", x.day(1, 2, 0, n, 3), least);
        Due.is(what + ", greatest in it", x.day(1, 2, 0, n, 4), greatestInIt);
        for (int k = numbers.length; k < 16; k++) {
            Due.isLost(what + ", no cell " + k, x, x.day(1, 2, 0, n, 10 + k), 0);
        }
    }

    private static int[] day(int... fours) {
        return fours;
    }

    private static void answers() {
        isDay("no acts", day(), 9, 5, 2, 7, 0, 9);
        isDay("add", day(0, 1, 3, -4), 9, 5, -2, 3, -4, 9);
        isDay("cap", day(1, 0, 4, 4), 9, 4, 2, 4, 0, 4);
        isDay("floor", day(2, 0, 4, 4), 9, 5, 4, 7, 4, 9);
        isDay("lift", day(3, 0, 0, 0, 3, 1, 1, 1, 3, 2, 2, 2), 11, 8, 4, 11, 0, 9);
        isDay("lower", day(4, 0, 0, 0, 4, 1, 1, 1, 4, 2, 2, 2), 9, 2, 0, 3, 0, 9);
        isDay("one behind another", day(0, 0, 4, 10, 1, 0, 4, 15, 2, 3, 4, 12, 4, 4, 4, 2), 19,
            15, 12, 15, 12, 11);
        isDay("far up", day(0, 0, 0, Integer.MAX_VALUE, 0, 0, 0, Integer.MAX_VALUE), 4294967299L,
            4294967299L, 2, 7, 0, 9);
        isDay("far down", day(0, 0, 0, Integer.MIN_VALUE, 0, 0, 0, Integer.MIN_VALUE), 9,
            -4294967291L, 2, 7, 0, 9);
    }

    private static void nothingIsChanged() {
        CappedRow x = fiveCells();
        x.add(0, 0, 1);
        x.reading(0, 6);
        Due.write(x, 1, 2, 0, 0, 4, 50, 3, 0, 4, 2, 1, 0, 4, 1);
        Due.is("changes nothing", x.day(1, 2, 0, 3, 0), 5);
        Due.areNumbers("changes nothing", x, 6, 2, 7, 0, 9);
        Due.areHistoric("changes nothing", x, 6, 2, 7, 0, 9);
        Due.is("changes nothing, log", x.many(2), 1);
        Due.is("changes nothing, acts of helper 2", x.ofHelper(2, 3), 0);
        Due.is("changes nothing, readings", x.many(4), 1);
        Due.is("changes nothing, kinds", x.kinds(0), 7);
        Due.is("changes nothing, sheet", x.cell(1, 3, 2), 50);
        x.add(0, 4, 1);
        Due.is("from how all is now", x.day(1, 2, 0, 0, 10), 7);
    }

    /** Each answer of a day that has a first wrong act. */
    private static void isWrong(String what, CappedRow x, int first, int... fours) {
        Due.write(x, 1, 2, fours);
        int n = fours.length / 4;
        Due.isWithout(what + ", first wrong", x, x.day(1, 2, 0, n, 1), first);
        int[] others = {0, 2, 3, 4, 10, 14, 15, 25};
        for (int other : others) {
            Due.isWithout(what + ", what " + other, x, x.day(1, 2, 0, n, other), -100 - first);
        }
    }

    private static void firstWrong() {
        int[][] cantBe = {
            {0, -1, 2, 1}, {0, 5, 5, 1}, {0, 0, 5, 1}, {1, 0, -1, 1}, {2, 3, 2, 1}, {0, 4, 0, 0},
            {3, 0, 1, 3}, {3, 0, 1, -1}, {4, 0, 1, 3}, {4, 2, 1, 0}, {3, 0, 5, 0}, {4, 0, 1, Integer.MIN_VALUE}};
        for (int[] act : cantBe) {
            CappedRow x = fiveCells();
            isWrong("wrong 0", x, 0, act);
            isWrong("wrong 2", x, 2, 0, 0, 4, 1, 1, 0, 0, 1, act[0], act[1], act[2], act[3], 0, 9, 9, 9);
            Due.is("right ahead of it", x.day(1, 2, 0, 2, 1), Due.NONE);
        }
        CappedRow x = fiveCells();
        Due.write(x, 1, 2, 0, 0, 1, 3, 1, 0, 1, -1, 2, 0, 1, 99);
        Due.is("only helpers' numbers are looked for", x.day(1, 2, 0, 3, 1), Due.NONE);
        isWrong("no helpers", Due.of("r5"), 0, 3, 0, 0, 0);
    }

    private static void longestDay() {
        CappedRow x = Due.of("r5");
        for (int a = 0; a < 24; a++) {
            x.add(0, 0, 0);
        }
        int[] cells = new int[60];
        for (int a = 0; a < 12; a++) {
            cells[4 * a + 3] = 1;
        }
        Due.write(x, 1, 2, cells);
        Due.isWithout("12 acts, by a full log", x, x.day(1, 2, 0, 12, 0), 17);
        Due.isLost("13 acts", x, x.day(1, 2, 0, 13, 0), 0);
        cells[4 * 11 + 1] = 1;
        Due.write(x, 1, 2, cells);
        Due.is("wrong 11", x.day(1, 2, 0, 12, 1), 11);
        Due.is("wrong 11", x.day(1, 2, 0, 12, 0), -111);
    }

    private static void lanes() {
        for (int lane = 0; lane <= 2; lane++) {
            CappedRow x = fiveCells();
            Due.write(x, 2, lane, 0, 0, 4, -100, 2, 3, 3, -99);
            Due.isWithout("lane " + lane, x, x.day(2, lane, 0, 2, 0), -476);
        }
        CappedRow cut = fiveCells();
        Due.write(cut, 2, 0, 0, 0, 0, 300);
        Due.is("cut to a byte", cut.day(2, 0, 0, 1, 10), 49);
        Due.write(cut, 2, 1, 0, 0, 0, 300);
        Due.is("not cut", cut.day(2, 1, 0, 1, 10), 305);
    }

    private static void places() {
        CappedRow x = fiveCells();
        Due.write(x, 3, 2, 77, 77, 77, 0, 0, 0, 1, 1, 1, 1, 0);
        Due.isWithout("from 3 on", x, x.day(3, 2, 3, 2, 0), 22);
        Due.isWithout("from 3 on", x, x.day(3, 2, 3, 2, 10), 6);
        Due.isWithout("from 3 on", x, x.day(3, 2, 3, 2, 11), 0);
        Due.isWithout("none, at its end", x, x.day(3, 2, 11, 0, 0), 23);
    }

    private static void refusalsAndFaults() {
        CappedRow x = fiveCells();
        Due.write(x, 1, 1, 0, 0, 4, 1);
        Due.isFault("a fault to forget", x, x.put(1, 9, 9), Due.INDEX);
        Due.isLost("sheet -1", x, x.day(-1, 1, 0, 1, 0), 0);
        Due.isFault("a fault to forget", x, x.put(1, 9, 9), Due.INDEX);
        Due.isLost("sheet 4", x, x.day(4, 1, 0, 1, 0), 0);
        Due.isLost("lane 3 ahead of faults", x, x.day(2, 3, -1, 1, 0), 0);
        Due.isLost("lane -1 ahead of faults", x, x.day(1, -1, -1, 1, 0), 0);
        Due.isLost("n -1 ahead of faults", x, x.day(1, 2, 0, -1, 0), 0);
        Due.isLost("n 13 ahead of faults", x, x.day(1, 2, 0, 13, 0), 0);
        Due.isLost("n far ahead of faults", x, x.day(1, 1, 0, Integer.MAX_VALUE, 0), 0);
        int[] outside = {-1, 5, 9, 26, Integer.MIN_VALUE, Integer.MAX_VALUE};
        for (int what : outside) {
            Due.isLost("what " + what + " ahead of faults", x, x.day(1, 2, -1, 1, what), 0);
        }
        Due.isLost("cast", x, x.day(1, 2, -1, 1, 0), 2);
        Due.isLost("cast", x, x.day(1, 0, 0, 1, 0), 2);
        Due.isLost("nothing is no cast", x, x.day(2, 0, -1, 1, 0), 1);
        Due.isLost("index -1", x, x.day(1, 1, -1, 1, 0), 3);
        Due.isLost("index 1", x, x.day(1, 1, 1, 1, 0), 3);
        Due.isLost("index, n 2", x, x.day(1, 1, 0, 2, 0), 3);
        Due.isLost("index beyond, none taken", x, x.day(1, 1, 5, 0, 0), 3);
        Due.isLost("index below, none taken", x, x.day(1, 1, -1, 0, 0), 3);
        Due.isLost("index far", x, x.day(1, 1, Integer.MAX_VALUE, 12, 0), 3);
        sorts();
        withoutRow();
    }

    private static void sorts() {
        CappedRow x = fiveCells();
        int[] unknown = {5, -1, 99, Integer.MIN_VALUE};
        for (int sort : unknown) {
            Due.write(x, 1, 2, 0, 0, 4, 1, sort, 0, 4, 1);
            Due.isLost("sort " + sort, x, x.day(1, 2, 0, 2, 0), 0);
            Due.isLost("sort " + sort + ", first wrong", x, x.day(1, 2, 0, 2, 1), 0);
            Due.isWithout("ahead of sort " + sort, x, x.day(1, 2, 0, 1, 0), 28);
            Due.isLost("first sort " + sort, x, x.day(1, 2, 4, 1, 0), 0);
            Due.write(x, 1, 2, 0, 9, 9, 1, sort, 0, 4, 1);
            Due.isLost("sort " + sort + " behind a wrong act", x, x.day(1, 2, 0, 2, 1), 0);
        }
    }

    private static void withoutRow() {
        CappedRow x = new CappedRow();
        Due.write(x, 1, 2, 0, 0, 0, 0);
        Due.isLost("no row", x, x.day(1, 2, 0, 1, 0), 0);
        Due.isLost("no row, no acts", x, x.day(1, 2, 0, 0, 1), 0);
        Due.isLost("index ahead of no row", x, x.day(1, 2, 0, 2, 0), 3);
        Due.isLost("cast ahead of no row", x, x.day(1, 1, 0, 1, 0), 2);
        Due.isLost("null ahead of no row", x, x.day(0, 1, 0, 1, 0), 1);
    }

    private static void greatestInIt() {
        CappedRow x = Due.of("r52");
        x.add(0, 1, 90);
        x.add(0, 1, -90);
        Due.write(x, 1, 2, 0, 0, 1, 4, 0, 0, 1, -8);
        Due.is("what was ahead of the day is not in it", x.day(1, 2, 0, 2, 4), 9);
        Due.is("now is in it", x.day(1, 2, 4, 1, 4), 5);
        Due.is("then", x.day(1, 2, 0, 2, 2), 1);
        x.add(0, 1, -10);
        Due.is("below 0", x.day(1, 2, 4, 1, 4), -5);
    }
}
