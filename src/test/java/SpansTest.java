/** Promises 11 to 14: ask, ofSpan, looks, unlike. */
public final class SpansTest {
    public static void main(String[] args) {
        promise11Ask();
        promise11Refusals();
        promise12OfSpan();
        promise12WhichSpansThereAre();
        promise13Looks();
        promise13Refusals();
        promise14Unlike();
        capOfAllNeverMakesUnlikenessMore();
        Due.end("SpansTest");
    }

    private static void areOfRun(CappedRow x, int from, int to, long... due) {
        for (int what = 0; what < due.length; what++) {
            Due.is("11 ask(" + from + ", " + to + ", " + what + ")", x.ask(from, to, what), due[what]);
        }
    }

    private static void promise11Ask() {
        CappedRow x = Due.of("r3773102");
        areOfRun(x, 0, 6, 23, 7, 0, 2, 3, 5, 7, 23);
        areOfRun(x, 1, 2, 14, 7, 7, 2, Due.LOST, 1, 7, 14);
        areOfRun(x, 5, 5, 0, 0, 0, 1, Due.LOST, 1, 0, 0);
        areOfRun(x, 4, 6, 3, 2, 0, 1, 1, 3, 2, 3);
        areOfRun(x, 3, 6, 6, 3, 0, 1, 2, 4, 3, 6);
        x.add(1, 3, -10);
        areOfRun(x, 0, 6, -7, 3, -7, 1, 2, 6, 7, 23);
        areOfRun(x, 1, 2, -6, -3, -3, 2, Due.LOST, 1, 7, 14);
        areOfRun(x, 1, 3, -13, -3, -7, 2, -7, 2, 7, 17);
        CappedRow far = Due.of("r11");
        far.add(0, 1, 1000000000000L);
        areOfRun(far, 0, 1, 2000000000002L, 1000000000001L, 1000000000001L, 2, Due.LOST, 1,
            1000000000001L, 2000000000002L);
    }

    private static void promise11Refusals() {
        CappedRow x = Due.of("r123");
        Due.is("11 from -1", x.ask(-1, 1, 0), Due.LOST);
        Due.is("11 to 3", x.ask(0, 3, 0), Due.LOST);
        Due.is("11 from 3", x.ask(3, 3, 0), Due.LOST);
        Due.is("11 back", x.ask(2, 1, 0), Due.LOST);
        Due.is("11 what 8", x.ask(0, 1, 8), Due.LOST);
        Due.is("11 what -1", x.ask(0, 1, -1), Due.LOST);
        Due.is("11 no row", new CappedRow().ask(0, 0, 0), Due.LOST);
    }

    private static void isSpan(CappedRow x, int s, long... due) {
        for (int what = 0; what < due.length; what++) {
            Due.is("12 ofSpan(" + s + ", " + what + ")", x.ofSpan(s, what), due[what]);
        }
        Due.is("12 what 7", x.ofSpan(s, 7), Due.LOST);
        Due.is("12 what -1", x.ofSpan(s, -1), Due.LOST);
    }

    private static void promise12OfSpan() {
        CappedRow x = Due.of("r57735");
        isSpan(x, 1, 0, 4, 7, 5, 2, 27, 3);
        isSpan(x, 2, 0, 2, 7, 5, 2, 19, 2);
        isSpan(x, 3, 3, 4, 5, 3, 1, 8, 2);
        isSpan(x, 4, 0, 1, 7, 5, 1, 12, 2);
        isSpan(x, 5, 2, 2, 7, Due.LOST, 1, 7, 1);
        isSpan(x, 6, 3, 3, 3, Due.LOST, 1, 3, 1);
        isSpan(x, 7, 4, 4, 5, Due.LOST, 1, 5, 1);
        isSpan(x, 8, 0, 0, 5, Due.LOST, 1, 5, 1);
        isSpan(x, 9, 1, 1, 7, Due.LOST, 1, 7, 1);
        x.cap(0, 4, 3);
        isSpan(x, 1, 0, 4, 3, Due.LOST, 5, 15, 1);
        x.add(3, 3, -9);
        isSpan(x, 3, 3, 4, 3, -6, 1, -3, 2);
    }

    private static void promise12WhichSpansThereAre() {
        StringBuilder text = new StringBuilder("r");
        for (int cells = 1; cells <= 16; cells++) {
            text.append((char) ('0' + cells % 10));
            CappedRow x = Due.of(text.toString());
            int there = 0;
            for (int s = -2; s <= 80; s++) {
                if (x.ofSpan(s, 0) != Due.LOST) {
                    there++;
                }
            }
            Due.is("12 how many of " + cells, there, 2 * cells - 1);
            Due.is("30 how many of " + cells, x.many(3), 2 * cells - 1);
        }
        CappedRow five = Due.of("r57735");
        int[] none = {0, -1, 10, 11, 12, 16, 18, 31, 32, 64, Integer.MIN_VALUE, Integer.MAX_VALUE};
        for (int s : none) {
            Due.is("12 no span " + s, five.ofSpan(s, 0), Due.LOST);
        }
        CappedRow sixteen = Due.of("r0123456789012345");
        for (int k = 0; k < 16; k++) {
            Due.is("12 span of cell " + k, sixteen.ofSpan(16 + k, 0), k);
            Due.is("12 span of cell " + k, sixteen.ofSpan(16 + k, 1), k);
        }
        Due.take(sixteen, "r12");
        Due.is("12 the spans of an earlier row are gone", sixteen.ofSpan(4, 0), Due.LOST);
        Due.is("12 no row", new CappedRow().ofSpan(1, 0), Due.LOST);
    }

    /** Spans of r57735: 1 0..4, 2 0..2, 3 3..4, 4 0..1, 5 2, 6 3, 7 4, 8 0, 9 1. */
    private static void promise13Looks() {
        CappedRow x = Due.of("r57735");
        Due.is("13 no less than the greatest", x.looks(0, 4, 7), 1);
        Due.is("13 left at the greatest: second below it", x.looks(0, 4, 6), 1);
        Due.is("13 second no less than it: 1, 2 and 4 are opened", x.looks(0, 4, 5), 7);
        Due.is("13 below: 3 is left at its greatest", x.looks(0, 4, 4), 7);
        Due.is("13 all: the second of 3 is v", x.looks(0, 4, 3), 9);
        Due.is("13 all", x.looks(0, 4, 2), 9);
        Due.is("13 far below", x.looks(0, 4, -1000000000000L), 9);
        Due.is("13 one cell: 1, 2, 4 are not wholly in it", x.looks(1, 1, 6), 7);
        Due.is("13 part, the greatest is v", x.looks(1, 1, 7), 1);
        Due.is("13 part, what is behind the run is left", x.looks(0, 0, 4), 7);
        Due.is("13 part, what is ahead of the run is left", x.looks(4, 4, 4), 5);
        Due.is("13 one cell, not more than v", x.looks(0, 0, 6), 7);
        Due.is("13 the run's spans are not more than v", x.looks(3, 4, 6), 3);
        Due.is("13 wholly in it, second less than v", x.looks(3, 4, 4), 3);
        Due.is("13 wholly in it, second is v", x.looks(3, 4, 3), 5);
        Due.is("13 nothing is changed", x.many(2), 0);
        Due.areNumbers("13 nothing is changed", x, 5, 7, 7, 3, 5);
        x.add(0, 4, -8);
        Due.is("13 below 0, second below it", x.looks(0, 4, -2), 1);
        Due.is("13 below 0, second is it", x.looks(0, 4, -3), 7);
        CappedRow alike = Due.of("r4444");
        Due.is("13 no second", alike.looks(0, 3, -9), 1);
        Due.is("13 no second, part", alike.looks(0, 2, 1), 5);
        Due.is("13 one cell alone", Due.of("r4").looks(0, 0, 1), 1);
    }

    private static void promise13Refusals() {
        CappedRow x = Due.of("r5773");
        Due.is("13 from -1", x.looks(-1, 0, 1000000000001L), Due.UNKNOWN);
        Due.is("13 to 4", x.looks(0, 4, 0), Due.UNKNOWN);
        Due.is("13 from 4, back", x.looks(4, 0, 0), Due.UNKNOWN);
        Due.is("13 back", x.looks(2, 1, 0), Due.OUTSIDE);
        Due.is("13 v up", x.looks(0, 1, 1000000000001L), Due.OUTSIDE);
        Due.is("13 v down", x.looks(0, 1, -1000000000001L), Due.OUTSIDE);
        Due.is("13 v farthest", x.looks(0, 3, 1000000000000L), 1);
        for (int a = 0; a < 24; a++) {
            x.add(0, 0, 0);
        }
        Due.is("13 a full log is no refusal", x.looks(0, 3, 9), 1);
        Due.is("13 no row", new CappedRow().looks(0, 0, 0), Due.UNKNOWN);
    }

    private static void promise14Unlike() {
        Due.is("14 one cell", Due.of("r4").unlike(), 1);
        Due.is("14 two alike", Due.of("r44").unlike(), 3);
        Due.is("14 two unlike", Due.of("r45").unlike(), 4);
        CappedRow x = Due.of("r57735");
        Due.is("14 five cells", x.unlike(), 3 + 2 + 2 + 2 + 5);
        x.cap(0, 4, 5);
        Due.is("14 capped", x.unlike(), 2 + 1 + 2 + 1 + 5);
        Due.is("14 all unlike, 16 cells less", Due.of("r0123456701234567").unlike(), 8 + 16 + 16 + 16 + 16);
        Due.is("14 no row", new CappedRow().unlike(), Due.STATE);
    }

    private static void capOfAllNeverMakesUnlikenessMore() {
        CappedRow x = Due.of("r9182736450918273");
        int before = x.unlike();
        for (int v = 10; v >= -1; v--) {
            x.cap(0, 15, v);
            int behind = x.unlike();
            Due.isSo("14 a cap of all by " + v + " makes it no more", behind <= before);
            before = behind;
        }
        Due.is("14 all alike then", before, 31);
    }
}
