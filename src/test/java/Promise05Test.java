/** Promise 5, add: the edges that the document names. */
public final class Promise05Test {
    private static final long FAR = 1000000000000L;

    public static void main(String[] args) {
        Promise add = new Promise(5);
        add.says("ADD v (-1000000000000 .. 1000000000000) to a RUN", Promise05Test::amounts);
        add.says("ADD v: each NUMBER is v more", Promise05Test::runAlone);
        add.says("UNKNOWN: either CELL", Promise05Test::unknown);
        add.says("A RUN is all CELLS from one to another one (not ahead of it)", Promise05Test::goesBack);
        add.says("how many ACTS THE LOG has then", Promise05Test::howManyActs);
        add.says("THE LOG keeps them (24 at most)", Promise05Test::fullLog);
        add.says("UNKNOWN: either CELL; OUTSIDE: the RUN goes back, v; FULL.", Promise05Test::order);
        add.end();
    }

    private static void amounts() {
        Edge.ofAmount((x, v) -> x.add(0, 4, v), FAR);
        CappedRow x = Due.of("r50");
        Due.is("most", x.add(0, 0, FAR), 1);
        Due.is("least", x.add(1, 1, -FAR), 2);
        Due.areNumbers("most, least", x, FAR + 5, -FAR);
        Due.is("a number may be beyond it", x.add(0, 0, FAR), 3);
        Due.is("a number may be beyond it", x.add(1, 1, -FAR), 4);
        Due.areNumbers("beyond", x, 2 * FAR + 5, -2 * FAR);
    }

    private static void runAlone() {
        CappedRow x = Due.of("r55555");
        x.add(1, 3, 2);
        Due.areNumbers("all but the ends", x, 5, 7, 7, 7, 5);
        x.add(0, 0, 1);
        Due.areNumbers("the first alone", x, 6, 7, 7, 7, 5);
        x.add(4, 4, -6);
        Due.areNumbers("the last alone", x, 6, 7, 7, 7, -1);
        x.add(0, 4, 1);
        Due.areNumbers("all", x, 7, 8, 8, 8, 0);
        x.add(0, 4, 0);
        Due.areNumbers("by 0", x, 7, 8, 8, 8, 0);
    }

    private static void unknown() {
        Edge.cellsOfRun((x, from, to) -> x.add(from, to, 3), Due.UNKNOWN);
    }

    private static void goesBack() {
        Edge.runGoesBack((x, from, to) -> x.add(from, to, 3), Due.OUTSIDE);
    }

    private static void howManyActs() {
        CappedRow x = Due.of("r5;p1");
        Due.is("the first", x.add(0, 0, 0), 1);
        x.cap(0, 0, 9);
        x.floor(0, 0, 0);
        x.help(0, 0, 0, 1);
        Due.is("others are acts, too", x.add(0, 0, 0), 5);
        x.add(1, 1, 0);
        Due.is("refused ones are none", x.add(0, 0, 0), 6);
        x.fresh();
        Due.is("behind fresh()", x.add(0, 0, 0), 1);
    }

    private static void fullLog() {
        CappedRow x = Due.of("r5");
        for (int a = 1; a <= 24; a++) {
            Due.is("act " + a, x.add(0, 0, 1), a);
        }
        Due.is("act 25", x.add(0, 0, 1), Due.FULL);
        Due.is("act 26", x.add(0, 0, 1), Due.FULL);
        Due.areNumbers("24 acts", x, 29);
        Twins.changesNothing("full", Made::withFullLog, y -> y.add(0, 4, 1), Due.FULL);
        Twins.changesNothing("full, by 0", Made::withFullLog, y -> y.add(0, 0, 0), Due.FULL);
    }

    private static void order() {
        Twins.changesNothing("unknown ahead of outside", Made::busy, x -> x.add(5, 0, FAR + 1), Due.UNKNOWN);
        Twins.changesNothing("unknown ahead of outside", Made::busy, x -> x.add(0, -1, FAR + 1), Due.UNKNOWN);
        Twins.changesNothing("unknown ahead of full", Made::withFullLog, x -> x.add(0, 5, 0), Due.UNKNOWN);
        Twins.changesNothing("a run that goes back ahead of full", Made::withFullLog, x -> x.add(1, 0, 0), Due.OUTSIDE);
        Twins.changesNothing("v ahead of full", Made::withFullLog, x -> x.add(0, 1, FAR + 1), Due.OUTSIDE);
    }
}
