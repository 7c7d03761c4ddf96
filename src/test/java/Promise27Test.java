/** Promise 27, as: the edges that the document names. */
public final class Promise27Test {
    public static void main(String[] args) {
        Promise as = new Promise(27);
        as.says("(each is a PLAIN one, too; a DOUBLE one is a BROAD one)", Promise27Test::eachKind);
        as.says("CAST: it is none", Promise27Test::cast);
        as.says("UNKNOWN; OUTSIDE", Promise27Test::unknown);
        as.says("OUTSIDE; CAST", Promise27Test::outside);
        as.says("UNKNOWN; OUTSIDE; CAST: it is none", Promise27Test::order);
        as.end();
    }

    private static void eachKind() {
        int[][] taken = {{0, 0}, {1, 0}, {1, 1}, {2, 0}, {2, 1}, {2, 2}};
        for (int[] t : taken) {
            Twins.refuses("kind " + t[0] + " as " + t[1], Made::busy, x -> x.as(t[0], t[1]), 1);
        }
    }

    private static void cast() {
        int[][] none = {{0, 1}, {0, 2}, {1, 2}};
        for (int[] t : none) {
            Twins.fails("kind " + t[0] + " as " + t[1], Made::busy, x -> x.as(t[0], t[1]), Due.CAST);
        }
        CappedRow x = Due.of("r1;d1;p1");
        Due.isWithout("by its kind, not by its number", x, x.as(0, 2), 1);
        Due.isFault("by its kind, not by its number", x, x.as(1, 1), Due.CAST);
    }

    private static void unknown() {
        int[] none = {-1, 3, Edge.LEAST, Edge.MOST};
        for (int h : none) {
            Twins.refuses("helper " + h, Made::busy, x -> x.as(h, 0), Due.UNKNOWN);
        }
        Twins.refuses("without a row", Made::withoutRow, x -> x.as(0, 0), Due.UNKNOWN);
        Twins.refuses("a row without helpers", () -> Due.of("r1"), x -> x.as(0, 0), Due.UNKNOWN);
        Twins.refuses("behind the only one", () -> Due.of("r1;p1"), x -> x.as(1, 0), Due.UNKNOWN);
        Twins.refuses("the only one", () -> Due.of("r1;p1"), x -> x.as(0, 0), 1);
    }

    private static void outside() {
        int[] none = {-1, 3, Edge.LEAST, Edge.MOST};
        for (int kind : none) {
            for (int n = 0; n <= 2; n++) {
                int h = n;
                Twins.refuses("helper " + h + " as " + kind, Made::busy, x -> x.as(h, kind), Due.OUTSIDE);
            }
        }
    }

    private static void order() {
        Twins.refuses("unknown ahead of outside", Made::busy, x -> x.as(3, 3), Due.UNKNOWN);
        Twins.refuses("outside ahead of cast", Made::busy, x -> x.as(0, 3), Due.OUTSIDE);
    }
}
