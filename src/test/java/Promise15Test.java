/** Promise 15, reading: the edges that the document names. */
public final class Promise15Test {
    private static final long FAR = 1000000000000000L;

    public static void main(String[] args) {
        Promise reading = new Promise(15);
        reading.says("READINGS, 8 at most, numbered by how many there are", Promise15Test::eight);
        reading.says("A READING: its number.", Promise15Test::numbers);
        reading.says("NUMBER of a CELL is v now", Promise15Test::now);
        reading.says("UNKNOWN; OUTSIDE", Promise15Test::unknown);
        reading.says("OUTSIDE: v (-1000000000000000 .. 1000000000000000)", Promise15Test::amounts);
        reading.says("UNKNOWN; OUTSIDE: v (-1000000000000000 .. 1000000000000000); FULL.", Promise15Test::order);
        reading.end();
    }

    private static void eight() {
        CappedRow x = Due.of("r5");
        for (int r = 0; r < 8; r++) {
            Due.is("reading " + r, x.reading(0, 5), r);
            Due.is("how many then", x.many(4), r + 1);
        }
        Due.is("the ninth", x.reading(0, 5), Due.FULL);
        Twins.changesNothing("the ninth", Made::withAllReadings, y -> y.reading(0, 0), Due.FULL);
        Twins.changesNothing("the ninth, which is so", Made::withAllReadings, y -> y.reading(0, 9), Due.FULL);
        x.back(1);
        Due.is("room for one", x.reading(0, 5), 7);
        Due.is("and no more", x.reading(0, 5), Due.FULL);
    }

    private static void numbers() {
        CappedRow x = Made.busy();
        Due.is("the third", x.reading(4, 0), 2);
        Due.areNumbers("it changes no number", x, 9, 12, 6, 7, 8);
        x.back(2);
        Due.is("behind back(2)", x.reading(4, 0), 1);
        x.fresh();
        Due.is("behind fresh()", x.reading(4, 0), 2);
        x.reading(5, 0);
        Due.is("behind one that is refused", x.reading(4, 0), 3);
        Due.take(x, "r5");
        Due.is("behind a text that is taken", x.reading(0, 0), 0);
    }

    private static void now() {
        CappedRow x = Due.of("r5;p1");
        x.reading(0, 5);
        Due.is("so", x.kinds(0), 7);
        x.add(0, 0, 1);
        Due.is("not so, one more", x.kinds(0), 0);
        x.add(0, 0, -1);
        Due.is("so again", x.kinds(0), 7);
        x.reading(0, 4);
        Due.is("one of two is not so", x.kinds(0), 0);
    }

    private static void unknown() {
        Edge.takes("cell", Made::busy, (x, k) -> x.reading(k, 0), 0, 4);
        Edge.refuses("cell", Made::busy, (x, k) -> x.reading(k, 0), Due.UNKNOWN, -1, 5, Edge.LEAST, Edge.MOST);
        Edge.refuses("cell, without a row,", Made::withoutRow, (x, k) -> x.reading(k, 0), Due.UNKNOWN, -1, 0, 1);
    }

    private static void amounts() {
        Edge.ofAmount((x, v) -> x.reading(0, v), FAR);
        Edge.ofAmount((x, v) -> x.reading(4, v), FAR);
    }

    private static void order() {
        Twins.changesNothing("unknown ahead of outside", Made::busy, x -> x.reading(5, FAR + 1), Due.UNKNOWN);
        Twins.changesNothing("unknown ahead of full", Made::withAllReadings, x -> x.reading(-1, 0), Due.UNKNOWN);
        Twins.changesNothing("outside ahead of full", Made::withAllReadings, x -> x.reading(0, FAR + 1), Due.OUTSIDE);
    }
}
