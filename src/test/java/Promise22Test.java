/** Promise 22, put: the edges that the document names. */
public final class Promise22Test {
    public static void main(String[] args) {
        Promise put = new Promise(22);
        put.says("what comes to a cell of it is cut to its LANE", Promise22Test::cut);
        put.says("Cell i of a SHEET becomes v: 1.", Promise22Test::places);
        put.says("UNKNOWN; NULL; INDEX.", Promise22Test::unknown);
        put.says("1 NULL (there is nothing)", Promise22Test::nothing);
        put.says("3 INDEX", Promise22Test::index);
        put.says("Of a call the first that is come to, in the order told", Promise22Test::order);
        put.end();
    }

    private static void becomes(int lane, int v, int due) {
        CappedRow x = new CappedRow();
        x.sheet(0, lane, 1);
        Due.isWithout("put " + v + " to lane " + lane, x, x.put(0, 0, v), 1);
        Due.isWithout("put " + v + " to lane " + lane + ", cell", x, x.cell(0, 0, lane), due);
    }

    private static void cut() {
        int[][] bytes = {
            {127, 127}, {128, -128}, {-128, -128}, {-129, 127}, {255, -1}, {256, 0}, {257, 1}, {-256, 0}, {-257, -1},
            {32768, 0}, {Edge.MOST, -1}, {Edge.LEAST, 0}, {0x12345678, 0x78}};
        for (int[] b : bytes) {
            becomes(0, b[0], b[1]);
        }
        int[][] shorts = {
            {127, 127}, {128, 128}, {32767, 32767}, {32768, -32768}, {-32768, -32768}, {-32769, 32767}, {65535, -1},
            {65536, 0}, {65537, 1}, {-65537, -1}, {Edge.MOST, -1}, {Edge.LEAST, 0}, {0x12345678, 0x5678}};
        for (int[] s : shorts) {
            becomes(1, s[0], s[1]);
        }
        int[] ints = {0, -1, 32768, 65536, Edge.MOST, Edge.LEAST};
        for (int v : ints) {
            becomes(2, v, v);
        }
    }

    private static void places() {
        CappedRow x = new CappedRow();
        x.sheet(3, 2, 60);
        Due.isWithout("the first", x, x.put(3, 0, 7), 1);
        Due.isWithout("the last", x, x.put(3, 59, 8), 1);
        for (int i = 0; i < 60; i++) {
            Due.is("cell " + i, x.cell(3, i, 2), i == 0 ? 7 : i == 59 ? 8 : 0);
        }
        Due.isWithout("another one in its place", x, x.put(3, 0, -1), 1);
        Due.is("another one in its place", x.cell(3, 0, 2), -1);
    }

    private static void unknown() {
        int[] none = {-1, 4, Edge.LEAST, Edge.MOST};
        for (int k : none) {
            Twins.refuses("sheet " + k, Made::busy, x -> x.put(k, 0, 1), Due.UNKNOWN);
        }
        for (int k = 0; k <= 3; k++) {
            CappedRow x = new CappedRow();
            x.sheet(k, 1, 1);
            Due.isWithout("sheet " + k, x, x.put(k, 0, 1), 1);
        }
    }

    private static void nothing() {
        Twins.fails("i 0", Made::busy, x -> x.put(3, 0, 1), Due.NULL);
        CappedRow x = Made.busy();
        x.sheet(3, 0, 1);
        Due.isWithout("with a row", x, x.put(3, 0, 1), 1);
        x.lose(3);
        Due.isFault("without it again", x, x.put(3, 0, 1), Due.NULL);
    }

    private static void index() {
        int[] beyond = {-1, 4, Edge.LEAST, Edge.MOST};
        for (int i : beyond) {
            Twins.fails("i " + i, Made::busy, x -> x.put(1, i, 1), Due.INDEX);
        }
        CappedRow x = Made.busy();
        Due.isWithout("i 0", x, x.put(1, 0, 1), 1);
        Due.isWithout("i 3", x, x.put(1, 3, 1), 1);
        x.sheet(3, 2, 0);
        Due.isFault("i 0 of an empty row", x, x.put(3, 0, 1), Due.INDEX);
        x.sheet(3, 2, 60);
        Due.isWithout("i 59 of 60", x, x.put(3, 59, 1), 1);
        Due.isFault("i 60 of 60", x, x.put(3, 60, 1), Due.INDEX);
        x.sheet(3, 2, 10);
        Due.isFault("i 10 of 10, where there were 60", x, x.put(3, 10, 1), Due.INDEX);
    }

    private static void order() {
        Twins.refuses("unknown ahead of index", Made::busy, x -> x.put(4, -1, 1), Due.UNKNOWN);
        Twins.fails("null ahead of index", Made::busy, x -> x.put(3, -1, 1), Due.NULL);
    }
}
