import java.util.function.Supplier;

/** Promise 23, cell: the edges that the document names. */
public final class Promise23Test {
    public static void main(String[] args) {
        Promise cell = new Promise(23);
        cell.says("Cell i of what a SHEET has, taken as a row of a LANE.", Promise23Test::cells);
        cell.says("LOST: UNKNOWN", Promise23Test::unknown);
        cell.says("OUTSIDE: lane", Promise23Test::outside);
        cell.says("FAULTS CAST (nothing is no CAST), NULL", Promise23Test::castAndNull);
        cell.says("INDEX.", Promise23Test::index);
        cell.says("Of a call the first that is come to, in the order told", Promise23Test::order);
        cell.end();
    }

    private static void lost(String what, Supplier<CappedRow> made, int k, int i, int lane, int fault) {
        Twins.changesFaultAlone(what, made, x -> x.cell(k, i, lane), Due.LOST, fault);
    }

    private static void cells() {
        Twins.refuses("the first byte", Made::busy, x -> x.cell(0, 0, 0), 114);
        Twins.refuses("the last byte", Made::busy, x -> x.cell(0, 14, 0), '2');
        Twins.refuses("a short below 0", Made::busy, x -> x.cell(1, 1, 1), -8);
        Twins.refuses("a short", Made::busy, x -> x.cell(1, 2, 1), 300);
        Twins.refuses("the last int", Made::busy, x -> x.cell(2, 7, 2), 2);
        CappedRow x = new CappedRow();
        Due.write(x, 3, 2, Edge.LEAST, Edge.MOST);
        Due.isWithout("the least int", x, x.cell(3, 0, 2), Edge.LEAST);
        Due.isWithout("the greatest int", x, x.cell(3, 1, 2), Edge.MOST);
    }

    private static void unknown() {
        int[] none = {-1, 4, Edge.LEAST, Edge.MOST};
        for (int k : none) {
            lost("sheet " + k, Made::busy, k, 0, 0, 0);
        }
        for (int k = 0; k <= 3; k++) {
            CappedRow x = new CappedRow();
            Due.write(x, k, 1, 40 + k);
            Due.isWithout("sheet " + k, x, x.cell(k, 0, 1), 40 + k);
        }
    }

    private static void outside() {
        int[] none = {-1, 3, Edge.LEAST, Edge.MOST};
        for (int lane : none) {
            lost("lane " + lane, Made::busy, 0, 0, lane, 0);
        }
    }

    private static void castAndNull() {
        for (int k = 0; k <= 2; k++) {
            for (int lane = 0; lane <= 2; lane++) {
                if (lane != k) {
                    lost("lane " + k + " as " + lane, Made::busy, k, 0, lane, 2);
                }
            }
            lost("nothing as lane " + k, Made::busy, 3, 0, k, 1);
        }
        CappedRow x = new CappedRow();
        x.sheet(0, 1, 0);
        Due.isLost("an empty row of another lane", x, x.cell(0, 0, 2), 2);
        Due.isLost("an empty row of the lane", x, x.cell(0, 0, 1), 3);
    }

    private static void index() {
        int[] beyond = {-1, 4, Edge.LEAST, Edge.MOST};
        for (int i : beyond) {
            lost("i " + i, Made::busy, 1, i, 1, 3);
        }
        CappedRow x = Made.busy();
        Due.isWithout("i 0", x, x.cell(1, 0, 1), 7);
        Due.isWithout("i 3", x, x.cell(1, 3, 1), 0);
        Due.write(x, 3, 2, new int[60]);
        Due.isWithout("i 59 of 60", x, x.cell(3, 59, 2), 0);
        Due.isLost("i 60 of 60", x, x.cell(3, 60, 2), 3);
        x.sheet(3, 2, 10);
        Due.isLost("i 10 of 10, where there were 60", x, x.cell(3, 10, 2), 3);
    }

    private static void order() {
        lost("unknown ahead of outside", Made::busy, 4, -1, 3, 0);
        lost("outside ahead of cast", Made::busy, 0, -1, 3, 0);
        lost("outside ahead of null", Made::busy, 3, -1, -1, 0);
        lost("cast ahead of index", Made::busy, 0, -1, 1, 2);
        lost("null ahead of index", Made::busy, 3, -1, 1, 1);
    }
}
