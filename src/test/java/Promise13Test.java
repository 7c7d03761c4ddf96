/** Promise 13, looks: the edges that the document names. */
public final class Promise13Test {
    private static final long FAR = 1000000000000L;

    public static void main(String[] args) {
        Promise looks = new Promise(13);
        looks.says("A CAP v of a RUN LOOKS INTO SPANS: into 1", Promise13Test::intoTheWholeRow);
        looks.says("of which some CELL is in the RUN", Promise13Test::someCell);
        looks.says("whose GREATEST is more than v", Promise13Test::greatest);
        looks.says("that is not wholly in the RUN", Promise13Test::notWholly);
        looks.says("or whose SECOND is there and no less than v", Promise13Test::second);
        looks.says("both halves of one that it LOOKS INTO and must OPEN", Promise13Test::halvesOfOpenOnes);
        looks.says("(nothing is changed)", Promise13Test::nothingIsChanged);
        looks.says("UNKNOWN; OUTSIDE (as of cap()).", Promise13Test::unknown);
        looks.says("OUTSIDE (as of cap())", Promise13Test::outside);
        looks.says("in the order in which a call's line tells them", Promise13Test::order);
        looks.end();
    }

    private static void is(String text, int from, int to, long v, int due) {
        Due.is(text + " looks(" + from + ", " + to + ", " + v + ")", Due.of(text).looks(from, to, v), due);
    }

    private static void intoTheWholeRow() {
        is("r4", 0, 0, 4, 1);
        is("r4", 0, 0, 3, 1);
        is("r4", 0, 0, -FAR, 1);
        is("r35", 0, 1, FAR, 1);
        is("r" + "4".repeat(16), 0, 15, 0, 1);
    }

    /** SPANS of four CELLS: 1 0..3, 2 0..1, 3 2..3, 4 0, 5 1, 6 2, 7 3. */
    private static void someCell() {
        is("r3599", 0, 0, 4, 5);
        is("r3599", 0, 1, 2, 5);
        is("r3599", 0, 2, 4, 5);
        is("r3599", 0, 2, 3, 7);
        is("r5399", 1, 2, 4, 7);
        is("r3599", 2, 2, 4, 5);
        is("r3599", 3, 3, 4, 5);
        is("r9953", 2, 3, 2, 5);
    }

    private static void greatest() {
        is("r35", 0, 1, 5, 1);
        is("r35", 0, 0, 5, 1);
        is("r35", 0, 0, 4, 3);
        is("r35", 1, 1, 4, 3);
        is("r3599", 0, 0, 9, 1);
        is("r3599", 0, 0, 8, 3);
        is("r3599", 0, 0, 5, 3);
        is("r3599", 0, 0, 4, 5);
    }

    private static void notWholly() {
        is("r55", 0, 1, 4, 1);
        is("r55", 0, 0, 4, 3);
        is("r55", 1, 1, 4, 3);
        is("r5555", 0, 3, 4, 1);
        is("r5555", 0, 2, 4, 5);
        is("r5555", 1, 3, 4, 5);
        is("r5555", 1, 2, 4, 7);
        is("r5555", 0, 1, 4, 3);
        is("r5555", 2, 3, 4, 3);
    }

    private static void second() {
        is("r35", 0, 1, 4, 1);
        is("r35", 0, 1, 3, 3);
        is("r35", 0, 1, 2, 3);
        is("r55", 0, 1, -FAR, 1);
        is("r3599", 0, 3, 6, 1);
        is("r3599", 0, 3, 5, 3);
        is("r3599", 0, 3, 4, 3);
        is("r3599", 0, 3, 3, 5);
        is("r3589", 0, 3, 8, 5);
        is("r3589", 0, 3, 3, 7);
        CappedRow low = Due.of("r35");
        low.add(0, 1, -9);
        Due.is("a second below 0, less than v", low.looks(0, 1, -5), 1);
        Due.is("a second below 0, no less than v", low.looks(0, 1, -6), 3);
    }

    /** From one SPAN alone to all that there are. */
    private static void halvesOfOpenOnes() {
        is("r1099", 0, 3, 0, 5);
        is("r1099", 0, 3, 2, 1);
        is("r1099", 0, 3, 1, 3);
        is("r0123456789", 0, 9, 0, 19);
        is("r0123456789", 0, 9, -1, 19);
        is("r0123456789", 0, 9, 8, 7);
        is("r0123456789", 0, 9, 9, 1);
        CappedRow all = Made.ofCells(16);
        all.add(10, 15, 100);
        Due.is("all of 31", all.looks(0, 15, -FAR), 31);
    }

    private static void nothingIsChanged() {
        Twins.changesNothing("a cap that would change all", Made::busy, x -> x.looks(0, 4, 0), 9);
        Twins.changesNothing("a full log is no matter", Made::withFullLog, x -> x.looks(0, 4, 0), 9);
    }

    private static void unknown() {
        Edge.cellsOfRun((x, from, to) -> x.looks(from, to, 3), Due.UNKNOWN);
    }

    private static void outside() {
        Edge.runGoesBack((x, from, to) -> x.looks(from, to, 3), Due.OUTSIDE);
        Edge.ofAmount((x, v) -> x.looks(0, 4, v), FAR);
    }

    private static void order() {
        Twins.changesNothing("unknown ahead of v", Made::busy, x -> x.looks(0, 5, FAR + 1), Due.UNKNOWN);
        Twins.changesNothing("unknown ahead of back", Made::busy, x -> x.looks(5, 0, 0), Due.UNKNOWN);
        Twins.changesNothing("outside, by a full log", Made::withFullLog, x -> x.looks(0, 4, FAR + 1), Due.OUTSIDE);
    }
}
