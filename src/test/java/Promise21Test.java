/** Promise 21, lose: the edges that the document names. */
public final class Promise21Test {
    public static void main(String[] args) {
        Promise lose = new Promise(21);
        lose.says("A SHEET has nothing: 1; 0: it had nothing.", Promise21Test::hadNothing);
        lose.says("A SHEET has nothing", Promise21Test::hasNothing);
        lose.says("a row of 0 .. 60 numbers", Promise21Test::emptyRow);
        lose.says("UNKNOWN.", Promise21Test::unknown);
        lose.end();
    }

    private static void hadNothing() {
        for (int k = 0; k <= 3; k++) {
            CappedRow x = new CappedRow();
            Due.is("at first", x.lose(k), 0);
            x.sheet(k, 1, 3);
            Due.is("it had a row", x.lose(k), 1);
            Due.is("it had nothing", x.lose(k), 0);
        }
        Twins.changesNothing("nothing is lost", Made::busy, x -> x.lose(3), 0);
    }

    private static void hasNothing() {
        CappedRow x = Made.busy();
        x.lose(1);
        Due.isFault("put", x, x.put(1, 0, 1), Due.NULL);
        Due.isLost("cell", x, x.cell(1, 0, 1), 1);
        Due.isLost("cell of another lane", x, x.cell(1, 0, 0), 1);
        Due.isFault("row", x, x.row(1, 1, 0, 0), Due.NULL);
        Due.isLost("day", x, x.day(1, 1, 0, 0, 0), 1);
        Due.isFault("copy from it", x, x.copy(1, 0, 0, 0, 0), Due.NULL);
        Due.isFault("copy to it", x, x.copy(0, 0, 1, 0, 0), Due.NULL);
        Due.isWithout("others stay", x, x.cell(0, 0, 0), 114);
        Due.isWithout("others stay", x, x.cell(2, 3, 2), 2);
        Due.areNumbers("the row stays", x, 9, 12, 6, 7, 8);
        x.put(1, 0, 1);
        Due.is("it names no faults", x.lose(0), 1);
        Due.is("it names no faults", x.fault(), 1);
    }

    private static void emptyRow() {
        CappedRow x = new CappedRow();
        x.sheet(2, 2, 0);
        Due.is("a row of 0 numbers is something", x.lose(2), 1);
        x.sheet(2, 2, 60);
        Due.is("a row of 60 numbers", x.lose(2), 1);
    }

    private static void unknown() {
        Edge.takes("sheet", Made::busy, CappedRow::lose, 0, 1, 2, 3);
        Edge.refuses("sheet", Made::busy, CappedRow::lose, Due.UNKNOWN, -1, 4, Edge.LEAST, Edge.MOST);
    }
}
