/** Promise 30, many: the edges that the document names. */
public final class Promise30Test {
    public static void main(String[] args) {
        Promise many = new Promise(30);
        many.says("(0 all without a ROW)", Promise30Test::withoutRow);
        many.says("How many: 0 CELLS, 1 HELPERS, 2 ACTS of THE LOG, 3 SPANS, 4 READINGS", Promise30Test::leastAndMost);
        many.says("3 SPANS", Promise30Test::spans);
        many.says("OUTSIDE.", Promise30Test::outside);
        many.end();
    }

    private static void are(String what, CappedRow x, long... due) {
        for (int asked = 0; asked <= 4; asked++) {
            Due.is(what + ", many(" + asked + ")", x.many(asked), due[asked]);
        }
    }

    private static void withoutRow() {
        are("a new object", new CappedRow(), 0, 0, 0, 0, 0);
        are("sheets", Made.withoutRow(), 0, 0, 0, 0, 0);
        CappedRow x = new CappedRow();
        Due.take(x, "r12;p1;");
        x.add(0, 0, 1);
        x.reading(0, 1);
        are("a text that is not taken", x, 0, 0, 0, 0, 0);
    }

    private static void leastAndMost() {
        are("least", Due.of("r0"), 1, 0, 0, 1, 0);
        are("busy", Made.busy(), 5, 3, 5, 9, 2);
        CappedRow x = Due.of("r1234567890123456;p1;p2;p3");
        for (int a = 0; a < 30; a++) {
            x.add(0, 0, 1);
            x.reading(0, 1);
        }
        are("most", x, 16, 3, 24, 31, 8);
        x.fresh();
        are("fresh", x, 16, 3, 0, 31, 8);
        x.back(8);
        are("back", x, 16, 3, 0, 31, 0);
        Due.take(x, "r12;p1");
        are("another text", x, 2, 1, 0, 3, 0);
    }

    private static void spans() {
        for (int cells = 1; cells <= 16; cells++) {
            Due.is(cells + " cells", Made.ofCells(cells).many(3), 2 * cells - 1);
        }
    }

    private static void outside() {
        Edge.takes("what", Made::busy, CappedRow::many, 0, 1, 2, 3, 4);
        Edge.refuses("what", Made::busy, CappedRow::many, Due.OUTSIDE, -1, 5, Edge.LEAST, Edge.MOST);
        Edge.refuses("what, without a row,", Made::withoutRow, CappedRow::many, Due.OUTSIDE, -1, 5);
    }
}
