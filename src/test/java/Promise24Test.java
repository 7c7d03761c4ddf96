import java.util.function.Supplier;

/** Promise 24, copy: the edges that the document names. */
public final class Promise24Test {
    public static void main(String[] args) {
        Promise copy = new Promise(24);
        copy.says("n cells of a SHEET from i on go to another one (perhaps the same) from j on", Promise24Test::places);
        copy.says("(perhaps the same)", Promise24Test::same);
        copy.says("as they were", Promise24Test::asTheyWere);
        copy.says("UNKNOWN; FAULTS", Promise24Test::unknown);
        copy.says("FAULTS NULL (the first, the other)", Promise24Test::nothing);
        copy.says("CAST (unlike LANES)", Promise24Test::unlikeLanes);
        copy.says("INDEX: i, j, n below 0 or beyond", Promise24Test::index);
        copy.says("where i is not 0 .. how many there are, if none of them is taken, too", Promise24Test::noneTaken);
        copy.says("Of a call the first that is come to, in the order told", Promise24Test::order);
        copy.end();
    }

    /** SHEETS 0 1 2 3 4 and 1 9 8 7 of shorts, 2 5 5 of ints, 3 nothing. */
    private static CappedRow sheets() {
        CappedRow x = new CappedRow();
        Due.write(x, 0, 1, 1, 2, 3, 4);
        Due.write(x, 1, 1, 9, 8, 7);
        Due.write(x, 2, 2, 5, 5);
        return x;
    }

    private static void copied(int k, int i, int other, int j, int n, int... due) {
        String what = "copy(" + k + ", " + i + ", " + other + ", " + j + ", " + n + ")";
        CappedRow x = sheets();
        Due.isWithout(what, x, x.copy(k, i, other, j, n), n);
        for (int c = 0; c < due.length; c++) {
            Due.isWithout(what + ", cell " + c, x, x.cell(other, c, 1), due[c]);
        }
        Due.isLost(what + ", no more", x, x.cell(other, due.length, 1), 3);
        CappedRow left = sheets();
        for (int c = 0; c < 5 && k != other; c++) {
            Due.is(what + ", from where they came, " + c, x.cell(k, c, 1), left.cell(k, c, 1));
        }
    }

    private static void places() {
        copied(0, 0, 1, 0, 1, 1, 8, 7);
        copied(0, 3, 1, 2, 1, 9, 8, 4);
        copied(0, 0, 1, 0, 3, 1, 2, 3);
        copied(0, 1, 1, 0, 3, 2, 3, 4);
        copied(1, 0, 0, 0, 3, 9, 8, 7, 4);
        copied(1, 0, 0, 1, 3, 1, 9, 8, 7);
        copied(1, 1, 0, 2, 2, 1, 2, 8, 7);
        copied(0, 0, 1, 0, 0, 9, 8, 7);
        CappedRow x = new CappedRow();
        x.sheet(0, 0, 60);
        x.put(0, 59, 6);
        x.sheet(1, 0, 60);
        Due.isWithout("60 cells", x, x.copy(0, 0, 1, 0, 60), 60);
        Due.isWithout("60 cells", x, x.cell(1, 59, 0), 6);
    }

    private static void same() {
        copied(0, 0, 0, 1, 3, 1, 1, 2, 3);
        copied(0, 1, 0, 0, 3, 2, 3, 4, 4);
        copied(0, 0, 0, 3, 1, 1, 2, 3, 1);
        copied(0, 0, 0, 0, 4, 1, 2, 3, 4);
        copied(0, 0, 0, 2, 2, 1, 2, 1, 2);
    }

    /** What is copied is no other name of the first one's cells. */
    private static void asTheyWere() {
        CappedRow x = sheets();
        x.copy(0, 0, 1, 0, 3);
        x.put(0, 0, 50);
        Due.isWithout("what is put to the first later", x, x.cell(1, 0, 1), 1);
        x.put(1, 1, 60);
        Due.isWithout("what is put to the other later", x, x.cell(0, 1, 1), 2);
        x.lose(0);
        Due.isWithout("the first is lost", x, x.cell(1, 2, 1), 3);
        int[] edges = {-128, 127, -1, 0};
        Due.write(x, 2, 0, edges);
        x.sheet(3, 0, 4);
        Due.isWithout("bytes", x, x.copy(2, 0, 3, 0, 4), 4);
        for (int i = 0; i < 4; i++) {
            Due.isWithout("byte " + i, x, x.cell(3, i, 0), edges[i]);
        }
    }

    private static Supplier<CappedRow> busyWithTwo() {
        return () -> {
            CappedRow x = Made.busy();
            Due.write(x, 3, 1, 9, 8, 7);
            return x;
        };
    }

    private static void unknown() {
        int[] none = {-1, 4, Edge.LEAST, Edge.MOST};
        for (int k : none) {
            Twins.refuses("from " + k, Made::busy, x -> x.copy(k, 0, 1, 0, 1), Due.UNKNOWN);
            Twins.refuses("to " + k, Made::busy, x -> x.copy(1, 0, k, 0, 1), Due.UNKNOWN);
            Twins.refuses("both " + k, Made::busy, x -> x.copy(k, 0, k, 0, 0), Due.UNKNOWN);
        }
        for (int k = 0; k <= 3; k++) {
            CappedRow x = new CappedRow();
            x.sheet(k, 2, 2);
            Due.isWithout("sheet " + k, x, x.copy(k, 0, k, 1, 1), 1);
        }
    }

    private static void nothing() {
        Twins.fails("the first", Made::busy, x -> x.copy(3, 0, 1, 0, 0), Due.NULL);
        Twins.fails("the other", Made::busy, x -> x.copy(1, 0, 3, 0, 0), Due.NULL);
        Twins.fails("both", Made::busy, x -> x.copy(3, 0, 3, 0, 0), Due.NULL);
        CappedRow empty = Made.busy();
        empty.sheet(3, 1, 0);
        Due.isWithout("an empty row is something", empty, empty.copy(3, 0, 1, 0, 0), 0);
        Due.isWithout("an empty row is something", empty, empty.copy(1, 4, 3, 0, 0), 0);
    }

    private static void unlikeLanes() {
        for (int from = 0; from <= 2; from++) {
            for (int to = 0; to <= 2; to++) {
                int k = from;
                int other = to;
                if (k != other) {
                    Twins.fails("lane " + k + " to " + other, Made::busy, x -> x.copy(k, 0, other, 0, 1), Due.CAST);
                    Twins.fails("none, " + k + " to " + other, Made::busy, x -> x.copy(k, 0, other, 0, 0), Due.CAST);
                }
            }
            CappedRow x = new CappedRow();
            x.sheet(0, from, 1);
            x.sheet(1, from, 1);
            Due.isWithout("alike lanes " + from, x, x.copy(0, 0, 1, 0, 1), 1);
        }
    }

    /** SHEET 1 has four cells, SHEET 3 three. */
    private static void index() {
        int[][] beyond = {
            {-1, 0, 1}, {0, -1, 1}, {0, 0, -1}, {0, 0, 4}, {2, 0, 3}, {4, 0, 1}, {3, 0, 2}, {0, 3, 1}, {0, 2, 2}, {0, 1, 3},
            {1, 0, Edge.MOST}, {0, 1, Edge.MOST}, {Edge.MOST, 0, 1}, {0, Edge.MOST, 1}, {Edge.MOST, 0, Edge.MOST},
            {Edge.LEAST, 0, 1}, {0, Edge.LEAST, 1}, {0, 0, Edge.LEAST}, {Edge.LEAST, Edge.LEAST, Edge.LEAST}, {1, 1, -1}};
        for (int[] b : beyond) {
            String what = "i " + b[0] + ", j " + b[1] + ", n " + b[2];
            Twins.fails(what, busyWithTwo(), x -> x.copy(1, b[0], 3, b[1], b[2]), Due.INDEX);
        }
        int[][] inside = {{0, 0, 3}, {1, 0, 3}, {3, 2, 1}, {0, 2, 1}, {3, 0, 1}};
        for (int[] b : inside) {
            CappedRow x = busyWithTwo().get();
            Due.isWithout("i " + b[0] + ", j " + b[1], x, x.copy(1, b[0], 3, b[1], b[2]), b[2]);
        }
        Twins.fails("the same, one beyond", busyWithTwo(), x -> x.copy(3, 0, 3, 1, 3), Due.INDEX);
    }

    private static void noneTaken() {
        int[][] beyond = {{-1, 0}, {0, -1}, {5, 0}, {0, 4}, {5, 4}, {Edge.LEAST, 0}, {0, Edge.MOST}};
        for (int[] b : beyond) {
            String what = "i " + b[0] + ", j " + b[1];
            Twins.fails(what, busyWithTwo(), x -> x.copy(1, b[0], 3, b[1], 0), Due.INDEX);
        }
        int[][] inside = {{0, 0}, {4, 0}, {0, 3}, {4, 3}};
        for (int[] b : inside) {
            String what = "i " + b[0] + ", j " + b[1];
            Twins.refuses(what, busyWithTwo(), x -> x.copy(1, b[0], 3, b[1], 0), 0);
        }
    }

    /** Each call is wrong in all that comes behind, too. */
    private static void order() {
        Twins.refuses("unknown, ahead of null", Made::busy, x -> x.copy(3, -1, 4, -1, -1), Due.UNKNOWN);
        Twins.refuses("unknown, ahead of null", Made::busy, x -> x.copy(-1, -1, 3, -1, -1), Due.UNKNOWN);
        Twins.fails("null, the first", Made::busy, x -> x.copy(3, -1, 1, -1, -1), Due.NULL);
        Twins.fails("null, the other", Made::busy, x -> x.copy(1, -1, 3, -1, -1), Due.NULL);
        Twins.fails("cast", Made::busy, x -> x.copy(1, -1, 2, -1, -1), Due.CAST);
    }
}
