import java.util.function.Supplier;

/** Numbers on both sides of an edge, given to calls that name no FAULTS: the last that are taken, the first that are not. */
final class Edge {
    static final int LEAST = Integer.MIN_VALUE, MOST = Integer.MAX_VALUE;

    interface ByNumber {
        long answer(CappedRow x, int number);
    }

    interface ByAmount {
        long answer(CappedRow x, long v);
    }

    interface ByRun {
        long answer(CappedRow x, int from, int to);
    }

    private Edge() {
    }

    /** The calls here answer nothing below 0 but refusals, when the objects of Made are asked. */
    static void takes(String name, Supplier<CappedRow> made, ByNumber call, int... numbers) {
        for (int n : numbers) {
            Due.isSo(name + " " + n + " is taken", call.answer(made.get(), n) >= 0);
        }
    }

    static void refuses(String name, Supplier<CappedRow> made, ByNumber call, long due, int... numbers) {
        for (int n : numbers) {
            Twins.changesNothing(name + " " + n, made, x -> call.answer(x, n), due);
        }
    }

    /** An amount may be from -far to far. */
    static void ofAmount(ByAmount call, long far) {
        long[] inside = {-far, 1 - far, 0, far - 1, far};
        for (long v : inside) {
            Due.isSo("v " + v + " is taken", call.answer(Made.busy(), v) >= 0);
        }
        long[] beyond = {-far - 1, far + 1, Long.MIN_VALUE, Long.MAX_VALUE, 1L << 62, -1L << 62};
        for (long v : beyond) {
            Twins.changesNothing("v " + v, Made::busy, x -> call.answer(x, v), Due.OUTSIDE);
        }
    }

    /** The HELPERS of busy() are 0 .. 2. */
    static void ofHelper(ByNumber call) {
        takes("helper", Made::busy, call, 0, 1, 2);
        refuses("helper", Made::busy, call, Due.UNKNOWN, -1, 3, LEAST, MOST);
        refuses("helper, of a row without one,", () -> Due.of("r52"), call, Due.UNKNOWN, -1, 0, 1);
        takes("helper, the only one,", () -> Due.of("r52;p1"), call, 0);
        refuses("helper, of a row with one,", () -> Due.of("r52;p1"), call, Due.UNKNOWN, -1, 1, 2);
        refuses("helper, without a row,", Made::withoutRow, call, Due.UNKNOWN, -1, 0, 1);
    }

    /** The CELLS of busy() are 0 .. 4. */
    static void cellsOfRun(ByRun call, long unknown) {
        takes("cell alone", Made::busy, (x, k) -> call.answer(x, k, k), 0, 1, 4);
        takes("to", Made::busy, (x, k) -> call.answer(x, 0, k), 0, 1, 4);
        takes("from", Made::busy, (x, k) -> call.answer(x, k, 4), 0, 3, 4);
        refuses("cell alone", Made::busy, (x, k) -> call.answer(x, k, k), unknown, -1, 5, LEAST, MOST);
        refuses("to", Made::busy, (x, k) -> call.answer(x, 0, k), unknown, -1, 5, LEAST, MOST);
        refuses("from", Made::busy, (x, k) -> call.answer(x, k, 4), unknown, -1, 5, LEAST, MOST);
        refuses("cell, without a row,", Made::withoutRow, (x, k) -> call.answer(x, k, k), unknown, -1, 0, 1);
    }

    static void runGoesBack(ByRun call, long outside) {
        takes("from 2 to", Made::busy, (x, k) -> call.answer(x, 2, k), 2, 3);
        refuses("from 2 back to", Made::busy, (x, k) -> call.answer(x, 2, k), outside, 1, 0);
        refuses("from 4 back to", Made::busy, (x, k) -> call.answer(x, 4, k), outside, 3, 0);
    }
}
