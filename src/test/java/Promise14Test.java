/** Promise 14, unlike: the edges that the document names. */
public final class Promise14Test {
    public static void main(String[] args) {
        Promise unlike = new Promise(14);
        unlike.says("UNLIKENESS of a SPAN: how many unlike NUMBERS there are in it", Promise14Test::rows);
        unlike.says("UNLIKENESS of all SPANS together.", Promise14Test::together);
        unlike.says("a cap of all never makes that more", Promise14Test::capOfAll);
        unlike.says("STATE: there is no ROW", Promise14Test::noRow);
        unlike.end();
    }

    private static void rows() {
        Due.is("one cell", Due.of("r4").unlike(), 1);
        Due.is("two alike", Due.of("r44").unlike(), 1 + 2);
        Due.is("two unlike", Due.of("r45").unlike(), 2 + 2);
        Due.is("alike, but not side by side", Due.of("r454").unlike(), 2 + 2 + 3);
        Due.is("16 alike", Due.of("r" + "4".repeat(16)).unlike(), 31);
        CappedRow all = Made.ofCells(16);
        Due.is("ten unlike ones of 16", all.unlike(), 10 + 16 + 16 + 16 + 16);
        all.add(10, 15, 100);
        Due.is("16 unlike ones", all.unlike(), 5 * 16);
        CappedRow signs = Due.of("r11");
        signs.add(1, 1, -2);
        Due.is("1 and -1", signs.unlike(), 4);
    }

    private static void together() {
        for (int cells = 1; cells <= 16; cells++) {
            CappedRow x = Made.ofCells(cells);
            x.cap(0, cells - 1, 4);
            long all = 0;
            for (int s = 1; s <= 31; s++) {
                all += x.ofSpan(s, 6) == Due.LOST ? 0 : x.ofSpan(s, 6);
            }
            Due.is(cells + " cells", x.unlike(), all);
        }
    }

    private static void capOfAll() {
        String[] texts = {"r9182736450918273", "r0123456789", "r5555", "r90909", "r1"};
        for (String text : texts) {
            CappedRow x = Due.of(text);
            int last = x.many(0) - 1;
            int before = x.unlike();
            for (int v = 10; v >= -1; v--) {
                x.cap(0, last, v);
                Due.isSo(text + ", cap " + v, x.unlike() <= before);
                before = x.unlike();
            }
            Due.is(text + ", all alike", before, 2 * last + 1);
        }
    }

    private static void noRow() {
        Twins.changesNothing("no row", Made::withoutRow, CappedRow::unlike, Due.STATE);
        Twins.changesNothing("a row", Made::busy, CappedRow::unlike, 5 + 3 + 2 + 2 + 5);
    }
}
