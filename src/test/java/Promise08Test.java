/** Promise 8, help: the edges that the document names. */
public final class Promise08Test {
    public static void main(String[] args) {
        Promise help = new Promise(8);
        help.says("A HELPER LIFTS a RUN (way 1), LOWERS it (0)", Promise08Test::ways);
        help.says("a HELPER LIFTS: ADD its STRENGTH; it LOWERS: ADD as much below 0", Promise08Test::strengths);
        help.says("its STRENGTH", Promise08Test::ofStrengthNought);
        help.says("UNKNOWN: HELPER, either CELL", Promise08Test::unknown);
        help.says("OUTSIDE: the RUN goes back, way", Promise08Test::outside);
        help.says("THE LOG keeps them (24 at most)", Promise08Test::fullLog);
        help.says("UNKNOWN: HELPER, either CELL; OUTSIDE: the RUN goes back, way; FULL.", Promise08Test::order);
        help.end();
    }

    private static void ways() {
        CappedRow x = Due.of("r555;p3");
        Due.is("lifts", x.help(0, 0, 1, 1), 3);
        Due.areNumbers("lifts", x, 8, 8, 5);
        Due.is("lowers", x.help(0, 1, 2, 0), 3);
        Due.areNumbers("lowers", x, 8, 5, 2);
        Due.areHistoric("then", x, 8, 8, 5);
    }

    private static void strengths() {
        int[] due = {9, 10, 18};
        for (int h = 0; h <= 2; h++) {
            CappedRow x = Due.of("r050;p9;b9;d9");
            Due.is("lifts one", x.help(h, 1, 1, 1), due[h]);
            Due.areNumbers("lifts one", x, 0, 5 + due[h], 0);
            Due.is("lowers all", x.help(h, 0, 2, 0), due[h]);
            Due.areNumbers("lowers all", x, -due[h], 5, -due[h]);
        }
    }

    private static void ofStrengthNought() {
        CappedRow x = Due.of("r5;p0;b0;d0");
        Due.is("plain 0", x.help(0, 0, 0, 1), 0);
        Due.is("double 0", x.help(2, 0, 0, 0), 0);
        Due.areNumbers("by 0", x, 5);
        Due.is("they are acts", x.many(2), 2);
        Due.is("broad 0", x.help(1, 0, 0, 0), 1);
        Due.areNumbers("by 1", x, 4);
    }

    private static void unknown() {
        Edge.ofHelper((x, h) -> x.help(h, 0, 0, 1));
        Edge.cellsOfRun((x, from, to) -> x.help(2, from, to, 1), Due.UNKNOWN);
    }

    private static void outside() {
        Edge.runGoesBack((x, from, to) -> x.help(2, from, to, 0), Due.OUTSIDE);
        Edge.takes("way", Made::busy, (x, way) -> x.help(0, 0, 1, way), 0, 1);
        Edge.refuses("way", Made::busy, (x, way) -> x.help(0, 0, 1, way), Due.OUTSIDE, -1, 2, Edge.LEAST, Edge.MOST);
    }

    private static void fullLog() {
        CappedRow x = Due.of("r5;p1");
        for (int a = 1; a <= 24; a++) {
            Due.is("act " + a, x.help(0, 0, 0, 1), 1);
            Due.is("act " + a, x.many(2), a);
        }
        Due.is("act 25", x.help(0, 0, 0, 1), Due.FULL);
        Due.areNumbers("24 acts", x, 29);
        Twins.changesNothing("full", Made::withFullLog, y -> y.help(0, 0, 4, 1), Due.FULL);
        Twins.changesNothing("full", Made::withFullLog, y -> y.help(2, 0, 4, 0), Due.FULL);
    }

    private static void order() {
        Twins.changesNothing("helper ahead of outside", Made::busy, x -> x.help(3, 1, 0, 2), Due.UNKNOWN);
        Twins.changesNothing("cell ahead of outside", Made::busy, x -> x.help(0, 5, 0, 2), Due.UNKNOWN);
        Twins.changesNothing("helper ahead of full", Made::withFullLog, x -> x.help(-1, 0, 0, 1), Due.UNKNOWN);
        Twins.changesNothing("cell ahead of full", Made::withFullLog, x -> x.help(0, 0, 5, 1), Due.UNKNOWN);
        Twins.changesNothing("a run that goes back ahead of full", Made::withFullLog, x -> x.help(0, 1, 0, 1),
            Due.OUTSIDE);
        Twins.changesNothing("way ahead of full", Made::withFullLog, x -> x.help(0, 0, 1, 2), Due.OUTSIDE);
    }
}
