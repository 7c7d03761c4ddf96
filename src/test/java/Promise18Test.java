/** Promise 18, paces: the edges that the document names. */
public final class Promise18Test {
    public static void main(String[] args) {
        Promise paces = new Promise(18);
        paces.says("PACES: PACE 0 .. 9; as sets", Promise18Test::sets);
        paces.says("Sets are told as bits (bit k for number k)", Promise18Test::eachPace);
        paces.says("by which all READINGS are so", Promise18Test::readings);
        paces.says("in place of what it is alone", Promise18Test::alone);
        paces.says("as if all of THE LOG had been done so from the first on", Promise18Test::fromTheFirstOn);
        paces.says("(by NUMBERS as at the TEXT, or the last fresh())", Promise18Test::numbersAtFirst);
        paces.says("PACES, as a set.", Promise18Test::nothingIsChanged);
        paces.says("UNKNOWN.", Promise18Test::unknown);
        paces.end();
    }

    /** HELPER 0 of such a text has lifted CELL 0, which was 5; then it is read so. */
    private static void is(String helper, long read, int due) {
        CappedRow x = Due.of("r5;" + helper);
        x.help(0, 0, 0, 1);
        x.reading(0, read);
        Due.is(helper + ", read " + read, x.paces(0), due);
    }

    private static void sets() {
        is("p3", 4, 0);
        is("p3", 5, 1);
        is("p3", 14, 1 << 9);
        is("p3", 15, 0);
        is("b3", 5, 0);
        is("b3", 6, 1);
        is("b3", 15, 1 << 9);
        is("b3", 16, 0);
        is("d3", 4, 0);
        is("d3", 5, 1);
        is("d3", 6, 0);
        is("d3", 23, 1 << 9);
        is("d3", 24, 0);
        is("d3", 25, 0);
    }

    private static void eachPace() {
        for (int pace = 0; pace <= 9; pace++) {
            is("p7", 5 + pace, 1 << pace);
            is("b7", 6 + pace, 1 << pace);
            is("d7", 5 + 2 * pace, 1 << pace);
        }
    }

    private static void readings() {
        CappedRow x = Due.of("r55;p3");
        Due.is("no readings, no acts", x.paces(0), 1023);
        x.help(0, 0, 1, 1);
        Due.is("no readings", x.paces(0), 1023);
        x.reading(1, 8);
        Due.is("one that is so", x.paces(0), 1 << 3);
        for (int r = 1; r < 7; r++) {
            x.reading(0, 8);
        }
        Due.is("seven that are so", x.paces(0), 1 << 3);
        x.reading(0, 9);
        Due.is("the eighth is not so", x.paces(0), 0);
        x.back(8);
        x.reading(0, 9);
        x.reading(1, 8);
        Due.is("the first is not so", x.paces(0), 0);
        CappedRow idle = Due.of("r5;p3");
        idle.reading(0, 5);
        Due.is("no acts, so", idle.paces(0), 1023);
        idle.reading(0, 6);
        Due.is("no acts, not so", idle.paces(0), 0);
    }

    private static void alone() {
        CappedRow x = Due.of("r0;p9;b9");
        x.help(0, 0, 0, 1);
        x.help(1, 0, 0, 0);
        x.reading(0, -1);
        Due.is("helper 0", x.paces(0), 1 << 9);
        Due.is("helper 1", x.paces(1), 1 << 9);
        x.back(1);
        x.reading(0, -10);
        Due.is("helper 0 the slowest", x.paces(0), 1);
        Due.is("helper 1 can't be so", x.paces(1), 0);
        x.back(1);
        x.reading(0, 8);
        Due.is("helper 1 the slowest", x.paces(1), 1);
        Due.is("helper 0 can't be so", x.paces(0), 0);
    }

    private static void fromTheFirstOn() {
        CappedRow x = Due.of("r5;p3");
        x.help(0, 0, 0, 1);
        x.cap(0, 0, 8);
        x.floor(0, 0, 7);
        x.reading(0, 8);
        Due.is("capped: 3 and more", x.paces(0), 1023 & ~7);
        x.back(1);
        x.reading(0, 7);
        Due.is("floored: 2 and less", x.paces(0), 7);
        x.help(0, 0, 0, 0);
        x.back(1);
        x.reading(0, 5);
        Due.is("lowered then: 7 less 2, 8 less 3", x.paces(0), 1 << 2 | 1 << 3);
        CappedRow full = Due.of("r0;p1");
        for (int a = 0; a < 24; a++) {
            full.help(0, 0, 0, 1);
        }
        full.reading(0, 24 * 9);
        Due.is("all 24 acts", full.paces(0), 1 << 9);
    }

    private static void numbersAtFirst() {
        CappedRow x = Due.of("r5;p3");
        x.help(0, 0, 0, 1);
        x.fresh();
        x.reading(0, 8);
        Due.is("behind fresh() no act is its own", x.paces(0), 1023);
        x.help(0, 0, 0, 1);
        x.back(1);
        x.reading(0, 17);
        Due.is("from 8 on", x.paces(0), 1 << 9);
        Due.take(x, "r1;p3");
        x.help(0, 0, 0, 1);
        x.reading(0, 10);
        Due.is("from 1 on, by another text", x.paces(0), 1 << 9);
    }

    private static void nothingIsChanged() {
        Twins.changesNothing("plain, who did nothing", Made::busy, x -> x.paces(0), 1023);
        Twins.changesNothing("broad, by 2", Made::busy, x -> x.paces(1), 1 << 1);
        Twins.changesNothing("double, by 4", Made::busy, x -> x.paces(2), 1 << 2);
    }

    private static void unknown() {
        Edge.ofHelper(CappedRow::paces);
    }
}
