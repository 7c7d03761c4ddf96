/** Promise 11, ask: the edges that the document names. */
public final class Promise11Test {
    public static void main(String[] args) {
        Promise ask = new Promise(11);
        ask.says("LOST: UNKNOWN: either CELL", Promise11Test::unknown);
        ask.says("OUTSIDE: the RUN goes back, what", Promise11Test::goesBack);
        ask.says("0 the sum, 1 the greatest, 2 the least, 3 how many are greatest", Promise11Test::outsideWhat);
        ask.says("4 the greatest less than that (LOST: there is none)", Promise11Test::second);
        ask.says("3 how many are greatest", Promise11Test::howManyGreatest);
        ask.says("1 the greatest, 2 the least", Promise11Test::extremesAtEachPlace);
        ask.says("5 how many unlike NUMBERS", Promise11Test::unlike);
        ask.says("6 the greatest HISTORIC, 7 all HISTORIC together", Promise11Test::historic);
        ask.says("Of a RUN", Promise11Test::ofOneCellAndOfAll);
        ask.end();
    }

    private static void areOfRun(CappedRow x, int from, int to, long... due) {
        for (int what = 0; what <= 7; what++) {
            Due.is("ask(" + from + ", " + to + ", " + what + ")", x.ask(from, to, what), due[what]);
        }
    }

    private static void unknown() {
        for (int w = 0; w <= 7; w++) {
            int what = w;
            // A CELL alone has no number less than the greatest one: what 4 answers LOST for it.
            if (what != 4) {
                Edge.cellsOfRun((x, from, to) -> x.ask(from, to, what), Due.LOST);
            }
        }
        Edge.refuses("to, what 4,", Made::busy, (x, k) -> x.ask(0, k, 4), Due.LOST, -1, 5);
        Edge.takes("to, what 4,", Made::busy, (x, k) -> x.ask(0, k, 4), 1, 4);
    }

    private static void goesBack() {
        Edge.runGoesBack((x, from, to) -> x.ask(from, to, 0), Due.LOST);
        Edge.runGoesBack((x, from, to) -> x.ask(from, to, 7), Due.LOST);
    }

    private static void outsideWhat() {
        Edge.takes("what", Made::busy, (x, what) -> x.ask(0, 4, what), 0, 1, 2, 3, 4, 5, 6, 7);
        Edge.refuses("what", Made::busy, (x, what) -> x.ask(0, 4, what), Due.LOST, -1, 8, Edge.LEAST, Edge.MOST);
    }

    private static void second() {
        CappedRow x = Due.of("r55355");
        Due.is("one cell", x.ask(2, 2, 4), Due.LOST);
        Due.is("all alike", x.ask(0, 1, 4), Due.LOST);
        Due.is("one that is unlike, at the end", x.ask(0, 2, 4), 3);
        Due.is("one that is unlike, at the begin", x.ask(2, 4, 4), 3);
        x.add(2, 2, 1);
        Due.is("one less", x.ask(0, 4, 4), 4);
        x.add(2, 2, 1);
        Due.is("no less", x.ask(0, 4, 4), Due.LOST);
        x.add(2, 2, 1);
        Due.is("one more", x.ask(0, 4, 4), 5);
        x.add(0, 4, -1000000000000L);
        Due.is("far below 0", x.ask(0, 4, 4), 5 - 1000000000000L);
    }

    private static void howManyGreatest() {
        CappedRow x = Due.of("r7077");
        Due.is("all but one", x.ask(0, 3, 3), 3);
        Due.is("one cell", x.ask(1, 1, 3), 1);
        Due.is("the run alone", x.ask(0, 1, 3), 1);
        Due.is("the run alone", x.ask(2, 3, 3), 2);
        x.add(0, 0, 1);
        Due.is("one more", x.ask(0, 3, 3), 1);
        Due.is("16 alike", Due.of("r" + "4".repeat(16)).ask(0, 15, 3), 16);
    }

    private static void extremesAtEachPlace() {
        for (int k = 0; k < 16; k++) {
            CappedRow x = Due.of("r" + "5".repeat(16));
            x.add(k, k, 1);
            Due.is("greatest at " + k, x.ask(0, 15, 1), 6);
            Due.is("second elsewhere", x.ask(0, 15, 4), 5);
            Due.is("one greatest", x.ask(0, 15, 3), 1);
            x.add(k, k, -2);
            Due.is("least at " + k, x.ask(0, 15, 2), 4);
            Due.is("second at " + k, x.ask(0, 15, 4), 4);
            Due.is("15 greatest", x.ask(0, 15, 3), 15);
            Due.is("greatest historic at " + k, x.ask(0, 15, 6), 6);
            Due.is("all historic", x.ask(0, 15, 7), 81);
            Due.is("sum", x.ask(0, 15, 0), 79);
            Due.is("least without it, ahead", k == 0 ? 5 : x.ask(0, k - 1, 2), 5);
            Due.is("least without it, behind", k == 15 ? 5 : x.ask(k + 1, 15, 2), 5);
        }
    }

    private static void unlike() {
        Due.is("all alike", Due.of("r" + "4".repeat(16)).ask(0, 15, 5), 1);
        Due.is("ten of 16", Made.ofCells(16).ask(0, 15, 5), 10);
        CappedRow x = Made.ofCells(16);
        x.add(10, 15, 100);
        Due.is("16 of 16", x.ask(0, 15, 5), 16);
        Due.is("one cell", x.ask(15, 15, 5), 1);
        Due.is("alike, not side by side", Due.of("r121").ask(0, 2, 5), 2);
    }

    private static void historic() {
        CappedRow x = Made.busy();
        Due.is("greatest", x.ask(0, 4, 6), 13);
        Due.is("greatest, without it", x.ask(3, 4, 6), 9);
        Due.is("together", x.ask(0, 4, 7), 9 + 12 + 13 + 7 + 9);
        Due.is("together, of a part", x.ask(1, 2, 7), 25);
        x.fresh();
        Due.is("greatest, fresh", x.ask(0, 4, 6), 12);
        Due.is("together, fresh", x.ask(0, 4, 7), 42);
    }

    private static void ofOneCellAndOfAll() {
        CappedRow x = Made.busy();
        areOfRun(x, 0, 4, 42, 12, 6, 1, 9, 5, 13, 50);
        areOfRun(x, 0, 0, 9, 9, 9, 1, Due.LOST, 1, 9, 9);
        areOfRun(x, 4, 4, 8, 8, 8, 1, Due.LOST, 1, 9, 9);
        areOfRun(x, 2, 3, 13, 7, 6, 1, 6, 2, 13, 20);
        areOfRun(Made.ofCells(1), 0, 0, 1, 1, 1, 1, Due.LOST, 1, 1, 1);
    }
}
