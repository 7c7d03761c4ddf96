/** Promise 6, cap: the edges that the document names. */
public final class Promise06Test {
    private static final long FAR = 1000000000000L;

    public static void main(String[] args) {
        Promise cap = new Promise(6);
        cap.says("CAP v (-1000000000000 .. 1000000000000) of a RUN", Promise06Test::amounts);
        cap.says("CAP v: each that is more than v is v", Promise06Test::moreThan);
        cap.says("how many NUMBERS became others", Promise06Test::howMany);
        cap.says("UNKNOWN; OUTSIDE; FULL (as of add()).", Promise06Test::unknown);
        cap.says("A RUN is all CELLS from one to another one (not ahead of it)", Promise06Test::goesBack);
        cap.says("THE LOG keeps them (24 at most)", Promise06Test::fullLog);
        cap.says("in the order in which a call's line tells them", Promise06Test::order);
        cap.end();
    }

    private static void amounts() {
        Edge.ofAmount((x, v) -> x.cap(0, 4, v), FAR);
        CappedRow x = Due.of("r50");
        x.add(0, 0, FAR);
        Due.is("most", x.cap(0, 1, FAR), 1);
        Due.areNumbers("most", x, FAR, 0);
        Due.is("least", x.cap(1, 1, -FAR), 1);
        Due.areNumbers("least", x, FAR, -FAR);
        x.add(1, 1, -1);
        Due.is("a number below it stays", x.cap(1, 1, -FAR), 0);
        Due.areNumbers("a number below it stays", x, FAR, -FAR - 1);
    }

    private static void moreThan() {
        CappedRow x = Due.of("r456");
        Due.is("v is the greatest", x.cap(0, 2, 6), 0);
        Due.areNumbers("v is the greatest", x, 4, 5, 6);
        Due.is("one less", x.cap(0, 2, 5), 1);
        Due.areNumbers("one less", x, 4, 5, 5);
        Due.is("v is the least", x.cap(0, 2, 4), 2);
        Due.areNumbers("v is the least", x, 4, 4, 4);
        Due.areHistoric("then", x, 4, 5, 6);
    }

    private static void howMany() {
        CappedRow x = Due.of("r99999");
        Due.is("none, and an act", x.cap(0, 4, 9), 0);
        Due.is("none, and an act", x.many(2), 1);
        Due.is("all but the ends", x.cap(1, 3, 8), 3);
        Due.areNumbers("all but the ends", x, 9, 8, 8, 8, 9);
        Due.is("the first alone", x.cap(0, 0, 7), 1);
        Due.is("the last alone", x.cap(4, 4, 6), 1);
        Due.areNumbers("the ends", x, 7, 8, 8, 8, 6);
        Due.is("all", x.cap(0, 4, 0), 5);
        Due.is("all of 16", Made.ofCells(16).cap(0, 15, -1), 16);
        Due.is("one of one", Made.ofCells(1).cap(0, 0, 0), 1);
    }

    private static void unknown() {
        Edge.cellsOfRun((x, from, to) -> x.cap(from, to, 3), Due.UNKNOWN);
    }

    private static void goesBack() {
        Edge.runGoesBack((x, from, to) -> x.cap(from, to, 3), Due.OUTSIDE);
    }

    private static void fullLog() {
        CappedRow x = Due.of("r9");
        for (int a = 1; a <= 24; a++) {
            Due.is("act " + a, x.cap(0, 0, -a), 1);
            Due.is("act " + a, x.many(2), a);
        }
        Due.is("act 25", x.cap(0, 0, -25), Due.FULL);
        Due.areNumbers("24 acts", x, -24);
        Twins.changesNothing("full", Made::withFullLog, y -> y.cap(0, 4, 1), Due.FULL);
        Twins.changesNothing("full, nothing to cap", Made::withFullLog, y -> y.cap(0, 4, 99), Due.FULL);
    }

    private static void order() {
        Twins.changesNothing("unknown ahead of outside", Made::busy, x -> x.cap(5, 0, FAR + 1), Due.UNKNOWN);
        Twins.changesNothing("unknown ahead of outside", Made::busy, x -> x.cap(0, -1, FAR + 1), Due.UNKNOWN);
        Twins.changesNothing("unknown ahead of full", Made::withFullLog, x -> x.cap(0, 5, 0), Due.UNKNOWN);
        Twins.changesNothing("a run that goes back ahead of full", Made::withFullLog, x -> x.cap(1, 0, 0), Due.OUTSIDE);
        Twins.changesNothing("v ahead of full", Made::withFullLog, x -> x.cap(0, 1, -FAR - 1), Due.OUTSIDE);
    }
}
