/** Promise 19, odds: the edges that the document names. */
public final class Promise19Test {
    public static void main(String[] args) {
        Promise odds = new Promise(19);
        odds.says("the share of those whose NUMBER is v or more", Promise19Test::orMore);
        odds.says("of its CELLS, all alike", Promise19Test::runAlone);
        odds.says("Shares are told as upper and lower number (above 0) in least terms", Promise19Test::leastTerms);
        odds.says("ODDS of a RUN, v", Promise19Test::anyAmount);
        odds.says("LOST: UNKNOWN: either CELL", Promise19Test::unknown);
        odds.says("OUTSIDE: the RUN goes back, which", Promise19Test::outside);
        odds.says("(which 0 the upper, 1 the lower number)", Promise19Test::which);
        odds.end();
    }

    private static void is(String what, CappedRow x, int from, int to, long v, long upper, long lower) {
        Due.is(what + ", upper", x.odds(from, to, v, 0), upper);
        Due.is(what + ", lower", x.odds(from, to, v, 1), lower);
    }

    private static void orMore() {
        CappedRow x = Due.of("r357");
        is("v is the least", x, 0, 2, 3, 1, 1);
        is("one more", x, 0, 2, 4, 2, 3);
        is("v is the second", x, 0, 2, 5, 2, 3);
        is("v is the greatest", x, 0, 2, 7, 1, 3);
        is("more than the greatest", x, 0, 2, 8, 0, 1);
        is("one cell, v", x, 1, 1, 5, 1, 1);
        is("one cell, one more", x, 1, 1, 6, 0, 1);
        x.add(0, 2, -10);
        is("below 0", x, 0, 2, -5, 2, 3);
    }

    private static void runAlone() {
        CappedRow x = Due.of("r9009");
        is("all", x, 0, 3, 1, 1, 2);
        is("without the first", x, 1, 3, 1, 1, 3);
        is("without the last", x, 0, 2, 1, 1, 3);
        is("without both", x, 1, 2, 1, 0, 1);
        is("alike ones are each counted", Due.of("r5557"), 0, 3, 5, 1, 1);
    }

    private static int gcd(int a, int b) {
        return b == 0 ? a : gcd(b, a % b);
    }

    /** Every share that there can be: so many of so many CELLS. */
    private static void leastTerms() {
        for (int all = 1; all <= 16; all++) {
            for (int such = 0; such <= all; such++) {
                CappedRow x = Due.of("r" + "9".repeat(such) + "0".repeat(all - such));
                int common = gcd(such, all);
                is(such + " of " + all, x, 0, all - 1, 9, such / common, all / common);
            }
        }
    }

    private static void anyAmount() {
        CappedRow x = Made.busy();
        is("least", x, 0, 4, Long.MIN_VALUE, 1, 1);
        is("most", x, 0, 4, Long.MAX_VALUE, 0, 1);
        is("beyond a reading", x, 0, 4, 1000000000000001L, 0, 1);
        is("beyond a reading", x, 0, 4, -1000000000000001L, 1, 1);
    }

    private static void unknown() {
        Edge.cellsOfRun((x, from, to) -> x.odds(from, to, 8, 0), Due.LOST);
        Edge.cellsOfRun((x, from, to) -> x.odds(from, to, 8, 1), Due.LOST);
    }

    private static void outside() {
        Edge.runGoesBack((x, from, to) -> x.odds(from, to, 8, 0), Due.LOST);
        Edge.runGoesBack((x, from, to) -> x.odds(from, to, 8, 1), Due.LOST);
    }

    private static void which() {
        Edge.takes("which", Made::busy, (x, which) -> x.odds(0, 4, 8, which), 0, 1);
        Edge.refuses("which", Made::busy, (x, which) -> x.odds(0, 4, 8, which), Due.LOST, -1, 2, Edge.LEAST, Edge.MOST);
        Twins.changesNothing("upper", Made::busy, x -> x.odds(0, 4, 8, 0), 3);
        Twins.changesNothing("lower", Made::busy, x -> x.odds(0, 4, 8, 1), 5);
    }
}
