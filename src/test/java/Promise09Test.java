/** Promise 9, fresh: the edges that the document names. */
public final class Promise09Test {
    public static void main(String[] args) {
        Promise fresh = new Promise(9);
        fresh.says("how many ACTS there were", Promise09Test::howManyActs);
        fresh.says("HISTORIC is NUMBER of each CELL", Promise09Test::historic);
        fresh.says("(READINGS stay)", Promise09Test::readingsStay);
        fresh.says("(by NUMBERS as at the TEXT, or the last fresh())", Promise09Test::numbersOfTheLastFresh);
        fresh.says("STATE: there is no ROW", Promise09Test::noRow);
        fresh.end();
    }

    private static void howManyActs() {
        CappedRow x = Due.of("r5");
        Due.is("none", x.fresh(), 0);
        x.add(0, 0, 1);
        Due.is("one", x.fresh(), 1);
        Due.is("none behind it", x.fresh(), 0);
        for (int a = 0; a < 25; a++) {
            x.add(0, 0, 1);
        }
        Due.is("as many as there can be", x.fresh(), 24);
        Due.is("none behind it", x.many(2), 0);
        for (int a = 1; a <= 24; a++) {
            Due.is("room for act " + a, x.add(0, 0, 1), a);
        }
        Due.is("and no more", x.add(0, 0, 1), Due.FULL);
        Due.areNumbers("49 acts", x, 5 + 49);
    }

    private static void historic() {
        CappedRow x = Made.busy();
        Due.areHistoric("ahead of it", x, 9, 12, 13, 7, 9);
        x.fresh();
        Due.areNumbers("behind it", x, 9, 12, 6, 7, 8);
        Due.areHistoric("behind it", x, 9, 12, 6, 7, 8);
        CappedRow all = Made.ofCells(16);
        all.add(0, 15, -20);
        all.fresh();
        for (int k = 0; k < 16; k++) {
            Due.is("historic " + k, all.at(k, 1), (k + 1) % 10 - 20);
        }
    }

    private static void readingsStay() {
        CappedRow x = Made.withAllReadings();
        x.fresh();
        Due.is("as many as there can be", x.many(4), 8);
        Due.is("no room for one more", x.reading(0, 0), Due.FULL);
        Due.is("they are so", x.kinds(1), 7);
        x.add(4, 4, 1);
        Due.is("they are not so any more", x.kinds(1), 0);
        Due.is("they can be taken back", x.back(8), 0);
        Due.is("helpers stay", x.many(1), 3);
        Due.is("spans stay", x.many(3), 9);
    }

    private static void numbersOfTheLastFresh() {
        CappedRow x = Due.of("r5;p1");
        x.help(0, 0, 0, 1);
        x.fresh();
        x.help(0, 0, 0, 1);
        x.fresh();
        x.help(0, 0, 0, 1);
        x.reading(0, 8);
        Due.is("one act of its own counts", x.paces(0), 1 << 1);
        x.back(1);
        x.reading(0, 7);
        Due.is("the number at the last fresh()", x.paces(0), 1);
        x.back(1);
        x.reading(0, 6);
        Due.is("the number at the one ahead of it", x.paces(0), 0);
    }

    private static void noRow() {
        Twins.changesNothing("no row", Made::withoutRow, CappedRow::fresh, Due.STATE);
        Twins.changesNothing("a new object", CappedRow::new, CappedRow::fresh, Due.STATE);
        CappedRow x = new CappedRow();
        Due.take(x, "r5;");
        Due.is("a text that is not taken", x.fresh(), Due.STATE);
        Due.take(x, "r5");
        Due.is("a text that is taken", x.fresh(), 0);
        Due.take(x, "x");
        Due.is("the row stays", x.fresh(), 0);
    }
}
