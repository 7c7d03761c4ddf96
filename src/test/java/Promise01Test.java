/** Promise 1, A new object: the edges that the document names. */
public final class Promise01Test {
    public static void main(String[] args) {
        Promise newObject = new Promise(1);
        newObject.says("No ROW (no CELLS, HELPERS)", Promise01Test::noCells);
        newObject.says("(no CELLS, HELPERS)", Promise01Test::noHelpers);
        newObject.says("SHEETS have nothing.", Promise01Test::sheetsHaveNothing);
        newObject.says("TRACE (an int that wraps, 0 at first", Promise01Test::traceAtFirst);
        newObject.says("No ROW", Promise01Test::objectsAreTheirOwn);
        newObject.says("An object is used for at most 512 calls after it has been made",
            Promise01Test::fiveHundredAndTwelfthCall);
        newObject.end();
    }

    private static void noCells() {
        CappedRow x = new CappedRow();
        for (int what = 0; what <= 4; what++) {
            Due.is("many(" + what + ")", x.many(what), 0);
        }
        Due.is("at", x.at(0, 0), Due.LOST);
        Due.is("at, historic", x.at(0, 1), Due.LOST);
        Due.is("add", x.add(0, 0, 0), Due.UNKNOWN);
        Due.is("cap", x.cap(0, 0, 0), Due.UNKNOWN);
        Due.is("floor", x.floor(0, 0, 0), Due.UNKNOWN);
        Due.is("fresh", x.fresh(), Due.STATE);
        Due.is("ask", x.ask(0, 0, 0), Due.LOST);
        Due.is("ofSpan", x.ofSpan(1, 0), Due.LOST);
        Due.is("looks", x.looks(0, 0, 0), Due.UNKNOWN);
        Due.is("unlike", x.unlike(), Due.STATE);
        Due.is("reading", x.reading(0, 0), Due.UNKNOWN);
        Due.is("back", x.back(0), 0);
        Due.is("odds", x.odds(0, 0, 0, 0), Due.LOST);
        x.sheet(0, 0, 0);
        Due.is("day", x.day(0, 0, 0, 0, 0), Due.LOST);
    }

    private static void noHelpers() {
        CappedRow x = new CappedRow();
        Due.is("ofHelper", x.ofHelper(0, 0), Due.UNKNOWN);
        Due.is("help", x.help(0, 0, 0, 0), Due.UNKNOWN);
        Due.is("kinds", x.kinds(0), Due.UNKNOWN);
        Due.is("paces", x.paces(0), Due.UNKNOWN);
        Due.is("tell", x.tell(0), Due.UNKNOWN);
        Due.is("cheer", x.cheer(0), Due.UNKNOWN);
        Due.is("as", x.as(0, 0), Due.UNKNOWN);
    }

    private static void sheetsHaveNothing() {
        for (int k = 0; k <= 3; k++) {
            CappedRow x = new CappedRow();
            Due.is("lose(" + k + ")", x.lose(k), 0);
            Due.isFault("put " + k, x, x.put(k, 0, 0), Due.NULL);
            Due.isFault("copy from " + k, x, x.copy(k, 0, k, 0, 0), Due.NULL);
            for (int lane = 0; lane <= 2; lane++) {
                Due.isFault("row of " + k, x, x.row(k, lane, 0, 0), Due.NULL);
                Due.isLost("cell of " + k, x, x.cell(k, 0, lane), 1);
                Due.isLost("day of " + k, x, x.day(k, lane, 0, 0, 0), 1);
            }
        }
    }

    private static void traceAtFirst() {
        Due.is("trace()", new CappedRow().trace(), 0);
        Due.is("fault()", new CappedRow().fault(), 0);
    }

    private static void objectsAreTheirOwn() {
        Made.busy();
        CappedRow x = new CappedRow();
        Due.is("many(0), beside an object that has a row", x.many(0), 0);
        Due.is("many(2), beside an object that has a log", x.many(2), 0);
        Due.is("lose(0), beside an object that has a sheet", x.lose(0), 0);
        Due.is("trace(), beside an object that has one", x.trace(), 0);
    }

    /** No NUMBER can be farther than by an ADD of the farthest v by each call. */
    private static void fiveHundredAndTwelfthCall() {
        long far = 1000000000000L;
        for (int sign = -1; sign <= 1; sign += 2) {
            CappedRow x = Made.ofCells(16);
            int calls = 1 + 17 + 1;
            long adds = 0;
            for (; calls < 511; calls++) {
                if (x.add(0, 15, sign * far) == Due.FULL) {
                    x.fresh();
                    calls++;
                } else {
                    adds++;
                }
            }
            Due.is("the 512th call", x.ask(0, 15, 0), 16 * sign * far * adds + 45 + 21);
        }
    }
}
