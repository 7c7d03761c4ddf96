/** Promise 3, ofHelper: the edges that the document names. */
public final class Promise03Test {
    public static void main(String[] args) {
        Promise ofHelper = new Promise(3);
        ofHelper.says("STRENGTH: of a PLAIN HELPER PACE; of a BROAD one 1 more; of a DOUBLE one twice what a PLAIN one's is.",
            Promise03Test::strengths);
        ofHelper.says("0 kind, 1 PACE, 2 STRENGTH, 3 how many ACTS of THE LOG are its own.", Promise03Test::outside);
        ofHelper.says("3 how many ACTS of THE LOG are its own", Promise03Test::actsOfItsOwn);
        ofHelper.says("UNKNOWN; OUTSIDE.", Promise03Test::unknown);
        ofHelper.says("in the order in which a call's line tells them", Promise03Test::order);
        ofHelper.end();
    }

    private static void strengths() {
        for (int pace = 0; pace <= 9; pace++) {
            CappedRow x = Due.of("r1;p" + pace + ";b" + pace + ";d" + pace);
            int[] due = {pace, pace + 1, 2 * pace};
            for (int h = 0; h <= 2; h++) {
                Due.is("kind of " + h, x.ofHelper(h, 0), h);
                Due.is("pace of " + h, x.ofHelper(h, 1), pace);
                Due.is("strength of kind " + h + " and pace " + pace, x.ofHelper(h, 2), due[h]);
            }
        }
    }

    private static void outside() {
        Edge.takes("what", Made::busy, (x, what) -> x.ofHelper(0, what), 0, 1, 2, 3);
        Edge.refuses("what", Made::busy, (x, what) -> x.ofHelper(0, what), Due.OUTSIDE, -1, 4, Edge.LEAST, Edge.MOST);
    }

    private static void actsOfItsOwn() {
        CappedRow x = Due.of("r12;p0;b1;d2");
        Due.is("none", x.ofHelper(1, 3), 0);
        x.add(0, 0, 1);
        x.cap(0, 0, 1);
        x.floor(0, 0, 1);
        Due.is("an act by a number that is its own is not its own", x.ofHelper(1, 3), 0);
        x.help(0, 0, 0, 1);
        x.help(0, 0, 0, 2);
        x.help(1, 1, 0, 1);
        Due.is("of strength 0", x.ofHelper(0, 3), 1);
        Due.is("refused ones are none", x.ofHelper(1, 3), 0);
        for (int a = 1; a <= 20; a++) {
            x.help(1, 0, 1, a % 2);
            Due.is("lifts and lowers", x.ofHelper(1, 3), a);
        }
        x.help(1, 0, 1, 1);
        Due.is("one that a full log doesn't take is none", x.ofHelper(1, 3), 20);
        Due.is("of another one", x.ofHelper(2, 3), 0);
        x.fresh();
        Due.is("behind fresh()", x.ofHelper(1, 3), 0);
        CappedRow alone = Due.of("r1;p1");
        for (int a = 0; a < 24; a++) {
            alone.help(0, 0, 0, 1);
        }
        Due.is("all of them", alone.ofHelper(0, 3), 24);
    }

    private static void unknown() {
        for (int w = 0; w <= 3; w++) {
            int what = w;
            Edge.ofHelper((x, h) -> x.ofHelper(h, what));
        }
    }

    private static void order() {
        Edge.refuses("helper, what 4,", Made::busy, (x, h) -> x.ofHelper(h, 4), Due.UNKNOWN, -1, 3);
        Edge.refuses("what, of a helper,", Made::busy, (x, what) -> x.ofHelper(2, what), Due.OUTSIDE, -1, 4);
    }
}
