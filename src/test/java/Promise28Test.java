/** Promise 28, trace: the edges that the document names. */
public final class Promise28Test {
    public static void main(String[] args) {
        Promise trace = new Promise(28);
        trace.says("0 at first", Promise28Test::atFirst);
        trace.says("TRACE (an int that wraps, 0 at first, becomes 31 times it and the number)", Promise28Test::wraps);
        trace.says("bodies that leave their number in TRACE", Promise28Test::onlyBodies);
        trace.says("as they begin", Promise28Test::asTheyBegin);
        trace.end();
    }

    private static void atFirst() {
        Due.is("a new object", new CappedRow().trace(), 0);
        CappedRow x = Due.of("r1;p1");
        Due.is("a row", x.trace(), 0);
        x.tell(1);
        x.cheer(-1);
        Due.is("refused calls leave nothing", x.trace(), 0);
        Twins.changesNothing("it is left as it is", Made::busy, CappedRow::trace, Made.busy().trace());
    }

    /** By hand: 31 times 917087137 and 1 is 28429701248, which is -1635069824 as an int. */
    private static void wraps() {
        int[] due = {1, 32, 993, 30784, 954305, 29583456, 917087137, -1635069824};
        CappedRow x = Due.of("r1;p1");
        for (int t = 0; t < due.length; t++) {
            x.tell(0);
            Due.is("told " + (t + 1) + " times", x.trace(), due[t]);
        }
        long wide = due[due.length - 1];
        for (int t = 0; t < 40; t++) {
            x.cheer(0);
            wide = (int) (31 * wide + 4);
            Due.is("cheered " + (t + 1) + " times", x.trace(), wide);
        }
    }

    private static void onlyBodies() {
        CappedRow x = Made.busy();
        int before = x.trace();
        Due.is("a double one told, a plain one cheered", before, ((((3 * 31 + 2) * 31 + 1) * 31 + 1) * 31) + 4);
        x.help(2, 0, 4, 1);
        x.kinds(2);
        x.paces(2);
        x.as(2, 1);
        x.as(0, 1);
        x.ofHelper(2, 2);
        x.day(2, 2, 0, 2, 0);
        x.fresh();
        x.row(0, 0, 0, 15);
        x.row(1, 1, 0, 4);
        Due.is("no other call", x.trace(), before);
    }

    /** A body that left its number as it ends would leave it behind those that it calls. */
    private static void asTheyBegin() {
        CappedRow broad = Due.of("r1;b1");
        broad.tell(0);
        Due.is("broad, then plain", broad.trace(), 2 * 31 + 1);
        CappedRow twice = Due.of("r1;d1");
        twice.tell(0);
        Due.is("double, broad, plain, plain", twice.trace(), ((3 * 31 + 2) * 31 + 1) * 31 + 1);
    }
}
