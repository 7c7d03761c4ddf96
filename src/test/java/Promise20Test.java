/** Promise 20, sheet: the edges that the document names. */
public final class Promise20Test {
    public static void main(String[] args) {
        Promise sheet = new Promise(20);
        sheet.says("SHEETS 0 .. 3", Promise20Test::unknown);
        sheet.says("a LANE: 0 bytes, 1 shorts, 2 ints", Promise20Test::lanes);
        sheet.says("a row of 0 .. 60 numbers (0 at first)", Promise20Test::lengths);
        sheet.says("A SHEET gets a new row: 1.", Promise20Test::newRow);
        sheet.says("OUTSIDE: lane, n above 60", Promise20Test::outside);
        sheet.says("4 SIZE (a length below 0)", Promise20Test::size);
        sheet.says("UNKNOWN; OUTSIDE: lane, n above 60; SIZE.", Promise20Test::order);
        sheet.end();
    }

    private static void unknown() {
        int[] none = {-1, 4, Edge.LEAST, Edge.MOST};
        for (int k : none) {
            Twins.refuses("sheet " + k, Made::busy, x -> x.sheet(k, 0, 1), Due.UNKNOWN);
        }
        for (int k = 0; k <= 3; k++) {
            CappedRow x = new CappedRow();
            Due.isWithout("sheet " + k, x, x.sheet(k, 0, 1), 1);
            for (int other = 0; other <= 3; other++) {
                Due.is("sheet " + k + " alone, " + other, x.lose(other), other == k ? 1 : 0);
            }
        }
    }

    private static void lanes() {
        for (int lane = 0; lane <= 2; lane++) {
            CappedRow x = new CappedRow();
            Due.isWithout("lane " + lane, x, x.sheet(0, lane, 1), 1);
            for (int other = 0; other <= 2; other++) {
                long got = x.cell(0, 0, other);
                Due.is("lane " + lane + " as " + other, got, other == lane ? 0 : Due.LOST);
                Due.is("lane " + lane + " as " + other + ", fault()", x.fault(), other == lane ? 0 : 2);
            }
        }
    }

    private static void lengths() {
        int[] lengths = {0, 1, 59, 60};
        for (int n : lengths) {
            CappedRow x = new CappedRow();
            Due.isWithout("n " + n, x, x.sheet(1, 1, n), 1);
            for (int i = 0; i < n; i++) {
                Due.isWithout("cell " + i + " of " + n, x, x.cell(1, i, 1), 0);
            }
            Due.isLost("no cell behind " + n, x, x.cell(1, n, 1), 3);
            Due.is("it has something", x.lose(1), 1);
        }
    }

    private static void newRow() {
        CappedRow x = Made.busy();
        Due.isWithout("as long", x, x.sheet(1, 1, 4), 1);
        for (int i = 0; i < 4; i++) {
            Due.isWithout("0 at first, " + i, x, x.cell(1, i, 1), 0);
        }
        x.put(1, 3, 5);
        x.sheet(1, 1, 3);
        Due.isLost("shorter", x, x.cell(1, 3, 1), 3);
        x.sheet(1, 1, 4);
        Due.isWithout("what was behind is gone", x, x.cell(1, 3, 1), 0);
        x.put(1, 3, 5);
        x.lose(1);
        x.sheet(1, 2, 4);
        Due.isWithout("what was lost is gone", x, x.cell(1, 3, 2), 0);
        Due.isLost("of the new lane", x, x.cell(1, 3, 1), 2);
        Due.areNumbers("the row is no matter of it", x, 9, 12, 6, 7, 8);
    }

    private static void outside() {
        int[] lanes = {-1, 3, Edge.LEAST, Edge.MOST};
        for (int lane : lanes) {
            Twins.refuses("lane " + lane, Made::busy, x -> x.sheet(1, lane, 1), Due.OUTSIDE);
        }
        int[] lengths = {61, 62, Edge.MOST};
        for (int n : lengths) {
            Twins.refuses("n " + n, Made::busy, x -> x.sheet(1, 1, n), Due.OUTSIDE);
            Twins.refuses("n " + n + ", of one that has nothing", Made::busy, x -> x.sheet(3, 1, n), Due.OUTSIDE);
        }
    }

    private static void size() {
        int[] lengths = {-1, -2, Edge.LEAST};
        for (int n : lengths) {
            Twins.fails("n " + n, Made::busy, x -> x.sheet(1, 1, n), Due.SIZE);
            Twins.fails("n " + n + ", of one that has nothing", Made::busy, x -> x.sheet(3, 1, n), Due.SIZE);
        }
    }

    private static void order() {
        Twins.refuses("unknown ahead of outside", Made::busy, x -> x.sheet(4, 3, 61), Due.UNKNOWN);
        Twins.refuses("unknown ahead of size", Made::busy, x -> x.sheet(-1, 1, -1), Due.UNKNOWN);
        Twins.refuses("outside ahead of size", Made::busy, x -> x.sheet(1, 3, -1), Due.OUTSIDE);
    }
}
