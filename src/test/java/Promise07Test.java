/** Promise 7, floor: the edges that the document names. */
public final class Promise07Test {
    private static final long FAR = 1000000000000L;

    public static void main(String[] args) {
        Promise floor = new Promise(7);
        floor.says("UNKNOWN; OUTSIDE; FULL (as of cap()).", Promise07Test::amounts);
        floor.says("FLOOR v: each that is less than v is v", Promise07Test::lessThan);
        floor.says("how many NUMBERS became others", Promise07Test::howMany);
        floor.says("UNKNOWN; OUTSIDE; FULL", Promise07Test::unknown);
        floor.says("A RUN is all CELLS from one to another one (not ahead of it)", Promise07Test::goesBack);
        floor.says("THE LOG keeps them (24 at most)", Promise07Test::fullLog);
        floor.says("in the order in which a call's line tells them", Promise07Test::order);
        floor.end();
    }

    private static void amounts() {
        Edge.ofAmount((x, v) -> x.floor(0, 4, v), FAR);
        CappedRow x = Due.of("r50");
        x.add(0, 0, -FAR);
        x.add(0, 0, -6);
        Due.is("least", x.floor(0, 1, -FAR), 1);
        Due.areNumbers("least", x, -FAR, 0);
        Due.is("most", x.floor(1, 1, FAR), 1);
        Due.areNumbers("most", x, -FAR, FAR);
        x.add(1, 1, 1);
        Due.is("a number above it stays", x.floor(1, 1, FAR), 0);
        Due.areNumbers("a number above it stays", x, -FAR, FAR + 1);
    }

    private static void lessThan() {
        CappedRow x = Due.of("r456");
        Due.is("v is the least", x.floor(0, 2, 4), 0);
        Due.areNumbers("v is the least", x, 4, 5, 6);
        Due.is("one more", x.floor(0, 2, 5), 1);
        Due.areNumbers("one more", x, 5, 5, 6);
        Due.is("v is the greatest", x.floor(0, 2, 6), 2);
        Due.areNumbers("v is the greatest", x, 6, 6, 6);
        Due.areHistoric("then", x, 6, 6, 6);
    }

    private static void howMany() {
        CappedRow x = Due.of("r00000");
        Due.is("none, and an act", x.floor(0, 4, 0), 0);
        Due.is("none, and an act", x.many(2), 1);
        Due.is("all but the ends", x.floor(1, 3, 1), 3);
        Due.areNumbers("all but the ends", x, 0, 1, 1, 1, 0);
        Due.is("the first alone", x.floor(0, 0, 2), 1);
        Due.is("the last alone", x.floor(4, 4, 3), 1);
        Due.areNumbers("the ends", x, 2, 1, 1, 1, 3);
        Due.is("all", x.floor(0, 4, 9), 5);
        Due.is("all of 16", Made.ofCells(16).floor(0, 15, 10), 16);
        Due.is("one of one", Made.ofCells(1).floor(0, 0, 2), 1);
    }

    private static void unknown() {
        Edge.cellsOfRun((x, from, to) -> x.floor(from, to, 30), Due.UNKNOWN);
    }

    private static void goesBack() {
        Edge.runGoesBack((x, from, to) -> x.floor(from, to, 30), Due.OUTSIDE);
    }

    private static void fullLog() {
        CappedRow x = Due.of("r0");
        for (int a = 1; a <= 24; a++) {
            Due.is("act " + a, x.floor(0, 0, a), 1);
            Due.is("act " + a, x.many(2), a);
        }
        Due.is("act 25", x.floor(0, 0, 25), Due.FULL);
        Due.areNumbers("24 acts", x, 24);
        Twins.changesNothing("full", Made::withFullLog, y -> y.floor(0, 4, 99), Due.FULL);
        Twins.changesNothing("full, nothing to floor", Made::withFullLog, y -> y.floor(0, 4, -99), Due.FULL);
    }

    private static void order() {
        Twins.changesNothing("unknown ahead of outside", Made::busy, x -> x.floor(5, 0, FAR + 1), Due.UNKNOWN);
        Twins.changesNothing("unknown ahead of outside", Made::busy, x -> x.floor(0, -1, FAR + 1), Due.UNKNOWN);
        Twins.changesNothing("unknown ahead of full", Made::withFullLog, x -> x.floor(0, 5, 30), Due.UNKNOWN);
        Twins.changesNothing("a run that goes back ahead of full", Made::withFullLog, x -> x.floor(1, 0, 30), Due.OUTSIDE);
        Twins.changesNothing("v ahead of full", Made::withFullLog, x -> x.floor(0, 1, FAR + 1), Due.OUTSIDE);
    }
}
