/** Promise 16, back: the edges that the document names. */
public final class Promise16Test {
    public static void main(String[] args) {
        Promise back = new Promise(16);
        back.says("The last n READINGS (0 .. as many as there are) are taken back: how many are left.",
            Promise16Test::asManyAsThereAre);
        back.says("The last n READINGS", Promise16Test::theLastOnes);
        back.says("OUTSIDE.", Promise16Test::outside);
        back.says("how many are left", Promise16Test::withoutRow);
        back.end();
    }

    private static void asManyAsThereAre() {
        for (int n = 0; n <= 8; n++) {
            CappedRow x = Made.withAllReadings();
            Due.is("back(" + n + ")", x.back(n), 8 - n);
            Due.is("how many then", x.many(4), 8 - n);
            Due.is("one more than are left", x.back(9 - n), Due.OUTSIDE);
            Due.is("number of the next one", x.reading(0, 9), n == 0 ? Due.FULL : 8 - n);
        }
        Twins.changesNothing("back(0)", Made::withAllReadings, x -> x.back(0), 8);
        Twins.changesNothing("back(0)", Made::busy, x -> x.back(0), 2);
    }

    private static void theLastOnes() {
        CappedRow x = Due.of("r5;p1");
        x.help(0, 0, 0, 1);
        x.reading(0, 6);
        x.reading(0, 7);
        Due.is("both", x.paces(0), 0);
        x.back(1);
        Due.is("the first is left", x.paces(0), 1 << 1);
        x.reading(0, 8);
        x.back(2);
        Due.is("none is left", x.paces(0), 1023);
        x.reading(0, 7);
        Due.is("another one in its place", x.paces(0), 1 << 2);
    }

    private static void outside() {
        Edge.takes("n", Made::busy, CappedRow::back, 0, 1, 2);
        Edge.refuses("n", Made::busy, CappedRow::back, Due.OUTSIDE, -1, 3, Edge.LEAST, Edge.MOST);
        Edge.takes("n of 8", Made::withAllReadings, CappedRow::back, 0, 8);
        Edge.refuses("n of 8", Made::withAllReadings, CappedRow::back, Due.OUTSIDE, -1, 9);
        Edge.takes("n of none", () -> Due.of("r5"), CappedRow::back, 0);
        Edge.refuses("n of none", () -> Due.of("r5"), CappedRow::back, Due.OUTSIDE, -1, 1);
    }

    private static void withoutRow() {
        Twins.changesNothing("back(0)", Made::withoutRow, x -> x.back(0), 0);
        Edge.refuses("n, without a row,", Made::withoutRow, CappedRow::back, Due.OUTSIDE, -1, 1);
    }
}
