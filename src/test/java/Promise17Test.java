/** Promise 17, kinds: the edges that the document names. */
public final class Promise17Test {
    public static void main(String[] args) {
        Promise kinds = new Promise(17);
        kinds.says("Sets are told as bits (bit k for number k)", Promise17Test::sets);
        kinds.says("by which all READINGS are so", Promise17Test::readings);
        kinds.says("in place of what it is alone", Promise17Test::alone);
        kinds.says("as if all of THE LOG had been done so from the first on", Promise17Test::fromTheFirstOn);
        kinds.says("(by NUMBERS as at the TEXT, or the last fresh())", Promise17Test::numbersAtFirst);
        kinds.says("KINDS of a HELPER: 0 .. 2", Promise17Test::nothingIsChanged);
        kinds.says("UNKNOWN.", Promise17Test::unknown);
        kinds.end();
    }

    /** HELPER 0 of such a text has lifted CELL 0, which was 5; then it is read so. */
    private static void is(String helper, long read, int due) {
        CappedRow x = Due.of("r5;" + helper);
        x.help(0, 0, 0, 1);
        x.reading(0, read);
        Due.is(helper + ", read " + read, x.kinds(0), due);
    }

    private static void sets() {
        is("p3", 8, 1);
        is("p3", 9, 2);
        is("p3", 11, 4);
        is("p3", 10, 0);
        is("b0", 5, 1 | 4);
        is("b0", 6, 2);
        is("d1", 6, 1);
        is("d1", 7, 2 | 4);
        is("d9", 14, 1);
        is("d9", 15, 2);
        is("d9", 23, 4);
        is("d9", 24, 0);
    }

    private static void readings() {
        CappedRow x = Due.of("r55;p3");
        Due.is("no readings, no acts", x.kinds(0), 7);
        x.help(0, 0, 1, 1);
        Due.is("no readings", x.kinds(0), 7);
        x.reading(1, 8);
        Due.is("one that is so", x.kinds(0), 1);
        for (int r = 1; r < 7; r++) {
            x.reading(0, 8);
        }
        Due.is("seven that are so", x.kinds(0), 1);
        x.reading(0, 9);
        Due.is("the eighth is not so", x.kinds(0), 0);
        x.back(8);
        x.reading(0, 9);
        x.reading(1, 8);
        Due.is("the first is not so", x.kinds(0), 0);
        CappedRow idle = Due.of("r5;p3");
        idle.reading(0, 5);
        Due.is("no acts, so", idle.kinds(0), 7);
        idle.reading(0, 6);
        Due.is("no acts, not so", idle.kinds(0), 0);
    }

    private static void alone() {
        CappedRow x = Due.of("r0;p2;p2");
        x.help(0, 0, 0, 1);
        x.help(1, 0, 0, 1);
        x.reading(0, 5);
        Due.is("helper 0", x.kinds(0), 2);
        Due.is("helper 1", x.kinds(1), 2);
        x.back(1);
        x.reading(0, 8);
        Due.is("both double would be so, none alone is", x.kinds(0), 0);
        x.back(1);
        x.reading(0, 6);
        Due.is("both broad would be so, one double alone is", x.kinds(1), 4);
    }

    private static void fromTheFirstOn() {
        CappedRow x = Due.of("r5;p3");
        x.help(0, 0, 0, 1);
        x.cap(0, 0, 8);
        x.help(0, 0, 0, 0);
        Due.areNumbers("lifted, capped, lowered", x, 5);
        x.reading(0, 5);
        Due.is("plain", x.kinds(0), 1);
        x.back(1);
        x.reading(0, 4);
        Due.is("broad, capped by one", x.kinds(0), 2);
        x.back(1);
        x.reading(0, 2);
        Due.is("double, capped by three", x.kinds(0), 4);
        CappedRow full = Due.of("r0;p1");
        for (int a = 0; a < 24; a++) {
            full.help(0, 0, 0, 1);
        }
        full.reading(0, 48);
        Due.is("all 24 acts", full.kinds(0), 2 | 4);
    }

    private static void numbersAtFirst() {
        CappedRow x = Due.of("r5;p3");
        x.help(0, 0, 0, 1);
        x.fresh();
        x.reading(0, 8);
        Due.is("behind fresh() no act is its own", x.kinds(0), 7);
        x.help(0, 0, 0, 1);
        x.back(1);
        x.reading(0, 12);
        Due.is("from 8 on", x.kinds(0), 2);
        Due.take(x, "r1;p3");
        x.help(0, 0, 0, 1);
        x.reading(0, 5);
        Due.is("from 1 on, by another text", x.kinds(0), 2);
    }

    private static void nothingIsChanged() {
        Twins.changesNothing("plain", Made::busy, x -> x.kinds(0), 7);
        Twins.changesNothing("broad: only its own kind lowers by 2, or double", Made::busy, x -> x.kinds(1), 2 | 4);
        Twins.changesNothing("double: only its own kind lifts by 4", Made::busy, x -> x.kinds(2), 4);
    }

    private static void unknown() {
        Edge.ofHelper(CappedRow::kinds);
    }
}
