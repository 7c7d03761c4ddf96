/** Promise 4, at: the edges that the document names. */
public final class Promise04Test {
    public static void main(String[] args) {
        Promise at = new Promise(4);
        at.says("NUMBER of a CELL (what 0), HISTORIC (1).", Promise04Test::what);
        at.says("LOST: UNKNOWN; OUTSIDE.", Promise04Test::unknown);
        at.says("HISTORIC of a CELL: the greatest NUMBER that it ever had (at first, behind each ACT)",
            Promise04Test::historic);
        at.says("(at first, behind each ACT)", Promise04Test::historicOfTheRunAlone);
        at.end();
    }

    private static void what() {
        CappedRow x = Made.busy();
        Due.areNumbers("number", x, 9, 12, 6, 7, 8);
        Due.areHistoric("historic", x, 9, 12, 13, 7, 9);
        Edge.refuses("what", Made::busy, (y, what) -> y.at(0, what), Due.LOST, -1, 2, Edge.LEAST, Edge.MOST);
    }

    private static void unknown() {
        for (int w = 0; w <= 1; w++) {
            int what = w;
            Edge.takes("cell", Made::busy, (x, k) -> x.at(k, what), 0, 4);
            Edge.refuses("cell", Made::busy, (x, k) -> x.at(k, what), Due.LOST, -1, 5, Edge.LEAST, Edge.MOST);
            Edge.takes("cell of one", () -> Made.ofCells(1), (x, k) -> x.at(k, what), 0);
            Edge.refuses("cell of one", () -> Made.ofCells(1), (x, k) -> x.at(k, what), Due.LOST, -1, 1);
            Edge.takes("cell of 16", () -> Made.ofCells(16), (x, k) -> x.at(k, what), 0, 15);
            Edge.refuses("cell of 16", () -> Made.ofCells(16), (x, k) -> x.at(k, what), Due.LOST, -1, 16, 17);
            Edge.refuses("cell, without a row,", Made::withoutRow, (x, k) -> x.at(k, what), Due.LOST, -1, 0);
        }
    }

    private static void isHistoric(String what, CappedRow x, long number, long historic) {
        Due.is(what + ", number", x.at(0, 0), number);
        Due.is(what + ", historic", x.at(0, 1), historic);
    }

    private static void historic() {
        CappedRow x = Due.of("r5;p2");
        isHistoric("at first", x, 5, 5);
        x.add(0, 0, -1);
        isHistoric("one less", x, 4, 5);
        x.add(0, 0, 1);
        isHistoric("as great", x, 5, 5);
        x.add(0, 0, 1);
        isHistoric("one more", x, 6, 6);
        x.cap(0, 0, 3);
        isHistoric("capped", x, 3, 6);
        x.floor(0, 0, 7);
        isHistoric("floored", x, 7, 7);
        x.help(0, 0, 0, 0);
        isHistoric("lowered", x, 5, 7);
        x.help(0, 0, 0, 1);
        x.help(0, 0, 0, 1);
        isHistoric("lifted", x, 9, 9);
        x.add(0, 0, -20);
        x.fresh();
        isHistoric("fresh, below 0", x, -11, -11);
        x.add(0, 0, 1);
        isHistoric("one more, below 0", x, -10, -10);
        x.add(0, 0, 1000000000001L);
        isHistoric("an act that is refused", x, -10, -10);
    }

    private static void historicOfTheRunAlone() {
        CappedRow x = Due.of("r555");
        x.add(1, 1, 4);
        x.add(1, 1, -9);
        Due.areNumbers("the middle one", x, 5, 0, 5);
        Due.areHistoric("the middle one", x, 5, 9, 5);
    }
}
