import java.util.HashMap;
import java.util.Map;

/** Promise 12, ofSpan: the edges that the document names. */
public final class Promise12Test {
    public static void main(String[] args) {
        Promise ofSpan = new Promise(12);
        ofSpan.says("SPANS: 1 is the whole ROW", Promise12Test::wholeRow);
        ofSpan.says("the one halfway (first and last added, by 2, cut)", Promise12Test::halves);
        ofSpan.says("SPAN s of two CELLS or more has two halves", Promise12Test::oneCellHasNone);
        ofSpan.says("SECOND: the greatest NUMBER less than that (LOST: there is none)", Promise12Test::second);
        ofSpan.says("4 how many are GREATEST, 5 the sum, 6 UNLIKENESS", Promise12Test::answers);
        ofSpan.says("LOST: UNKNOWN; OUTSIDE.", Promise12Test::unknown);
        ofSpan.says("0 its first CELL, 1 its last one, 2 GREATEST", Promise12Test::outside);
        ofSpan.end();
    }

    private static void wholeRow() {
        for (int cells = 1; cells <= 16; cells++) {
            CappedRow x = Made.ofCells(cells);
            Due.is("first of " + cells, x.ofSpan(1, 0), 0);
            Due.is("last of " + cells, x.ofSpan(1, 1), cells - 1);
        }
    }

    private static void halve(Map<Integer, int[]> spans, int s, int first, int last) {
        spans.put(s, new int[] {first, last});
        if (first < last) {
            int halfway = (first + last) / 2;
            halve(spans, 2 * s, first, halfway);
            halve(spans, 2 * s + 1, halfway + 1, last);
        }
    }

    private static void halves() {
        for (int cells = 1; cells <= 16; cells++) {
            Map<Integer, int[]> spans = new HashMap<>();
            halve(spans, 1, 0, cells - 1);
            CappedRow x = Made.ofCells(cells);
            for (int s = -2; s <= 66; s++) {
                int[] span = spans.get(s);
                Due.is("first of " + s + ", " + cells + " cells", x.ofSpan(s, 0), span == null ? Due.LOST : span[0]);
                Due.is("last of " + s + ", " + cells + " cells", x.ofSpan(s, 1), span == null ? Due.LOST : span[1]);
            }
        }
        CappedRow three = Made.ofCells(3);
        Due.is("two of three ahead", three.ofSpan(2, 1), 1);
        Due.is("one of three behind", three.ofSpan(3, 0), 2);
    }

    private static void oneCellHasNone() {
        CappedRow one = Made.ofCells(1);
        Due.is("the only span", one.ofSpan(1, 1), 0);
        Due.is("no half ahead", one.ofSpan(2, 0), Due.LOST);
        Due.is("no half behind", one.ofSpan(3, 0), Due.LOST);
        CappedRow two = Made.ofCells(2);
        Due.is("a half ahead", two.ofSpan(2, 0), 0);
        Due.is("a half behind", two.ofSpan(3, 0), 1);
        Due.is("no halves of halves", two.ofSpan(4, 0), Due.LOST);
        Due.is("no halves of halves", two.ofSpan(7, 0), Due.LOST);
        CappedRow nine = Made.ofCells(9);
        Due.is("the only two of 16 .. 31", nine.ofSpan(16, 0), 0);
        Due.is("the only two of 16 .. 31", nine.ofSpan(17, 0), 1);
        Due.is("no more", nine.ofSpan(18, 0), Due.LOST);
        Due.take(nine, "r12");
        Due.is("of a shorter row then", nine.ofSpan(4, 0), Due.LOST);
    }

    private static void second() {
        CappedRow x = Due.of("r5535");
        Due.is("there is one", x.ofSpan(1, 3), 3);
        Due.is("all alike", x.ofSpan(2, 3), Due.LOST);
        Due.is("there is one", x.ofSpan(3, 3), 3);
        Due.is("one cell", x.ofSpan(4, 3), Due.LOST);
        Due.is("one cell", x.ofSpan(7, 3), Due.LOST);
        x.floor(0, 3, 5);
        Due.is("all alike then", x.ofSpan(1, 3), Due.LOST);
        x.add(0, 0, 1);
        Due.is("one more", x.ofSpan(1, 3), 5);
        x.add(0, 3, -1000000000000L);
        Due.is("far below 0", x.ofSpan(1, 3), 5 - 1000000000000L);
    }

    private static void answers() {
        CappedRow x = Due.of("r5535");
        long[][] due = {
            {0, 3, 5, 3, 3, 18, 2}, {0, 1, 5, Due.LOST, 2, 10, 1}, {2, 3, 5, 3, 1, 8, 2}, {0, 0, 5, Due.LOST, 1, 5, 1},
            {1, 1, 5, Due.LOST, 1, 5, 1}, {2, 2, 3, Due.LOST, 1, 3, 1}, {3, 3, 5, Due.LOST, 1, 5, 1}};
        for (int s = 1; s <= 7; s++) {
            for (int what = 0; what <= 6; what++) {
                Due.is("ofSpan(" + s + ", " + what + ")", x.ofSpan(s, what), due[s - 1][what]);
            }
        }
    }

    private static void unknown() {
        for (int w = 0; w <= 6; w++) {
            int what = w;
            Edge.refuses("span", Made::busy, (x, s) -> x.ofSpan(s, what), Due.LOST, -1, 0, 10, 16, 31, 32);
            Edge.refuses("span, without a row,", Made::withoutRow, (x, s) -> x.ofSpan(s, what), Due.LOST, 0, 1, 2);
        }
        Edge.refuses("span", Made::busy, (x, s) -> x.ofSpan(s, 0), Due.LOST, Edge.LEAST, Edge.MOST, 33, 64, 1 << 30);
        Edge.takes("span", Made::busy, (x, s) -> x.ofSpan(s, 0), 1, 9);
        Edge.takes("span of 16 cells", () -> Made.ofCells(16), (x, s) -> x.ofSpan(s, 0), 1, 16, 31);
        Edge.refuses("span of 16 cells", () -> Made.ofCells(16), (x, s) -> x.ofSpan(s, 0), Due.LOST, 0, 32, 33);
    }

    private static void outside() {
        Edge.takes("what", Made::busy, (x, what) -> x.ofSpan(1, what), 0, 1, 2, 3, 4, 5, 6);
        Edge.refuses("what", Made::busy, (x, what) -> x.ofSpan(1, what), Due.LOST, -1, 7, Edge.LEAST, Edge.MOST);
    }
}
