/** Promises 15 to 19: reading, back, kinds, paces, odds. */
public final class StandsTest {
    private static final long FAR = 1000000000000000L;

    public static void main(String[] args) {
        promise15Reading();
        promise16Back();
        promise17Kinds();
        promise18Paces();
        guessesOfLaterActs();
        readingsBehindFresh();
        guessesChangeNothing();
        guessIsOfOneHelperAlone();
        unknownHelpers();
        promise19Odds();
        promise19Refusals();
        Due.end("StandsTest");
    }

    private static void promise15Reading() {
        CappedRow x = Due.of("r12");
        Due.is("15 cell 2", x.reading(2, FAR + 1), Due.UNKNOWN);
        Due.is("15 cell -1", x.reading(-1, 0), Due.UNKNOWN);
        Due.is("15 v up", x.reading(0, FAR + 1), Due.OUTSIDE);
        Due.is("15 v down", x.reading(0, -FAR - 1), Due.OUTSIDE);
        Due.is("15 refused", x.many(4), 0);
        Due.is("15 first", x.reading(0, FAR), 0);
        Due.is("15 second", x.reading(1, -FAR), 1);
        for (int r = 2; r < 8; r++) {
            Due.is("15 next", x.reading(0, 1), r);
        }
        Due.is("15 ninth", x.reading(0, 1), Due.FULL);
        Due.is("15 unknown ahead of full", x.reading(2, 1), Due.UNKNOWN);
        Due.is("15 outside ahead of full", x.reading(1, FAR + 1), Due.OUTSIDE);
        Due.is("15 how many", x.many(4), 8);
        Due.areNumbers("15 changes no number", x, 1, 2);
        Due.is("15 no row", new CappedRow().reading(0, 0), Due.UNKNOWN);
    }

    private static void promise16Back() {
        CappedRow x = Due.of("r12;p1");
        x.reading(0, 1);
        x.reading(1, 2);
        x.reading(0, 5);
        Due.is("16 they can't all be so", x.kinds(0), 0);
        Due.is("16 more than there are", x.back(4), Due.OUTSIDE);
        Due.is("16 below 0", x.back(-1), Due.OUTSIDE);
        Due.is("16 none", x.back(0), 3);
        Due.is("16 the last one", x.back(1), 2);
        Due.is("16 those left are so", x.kinds(0), 7);
        Due.is("16 how many", x.many(4), 2);
        Due.is("16 number of the next", x.reading(1, 7), 2);
        Due.is("16 all", x.back(3), 0);
        Due.is("16 none of none", x.back(0), 0);
        Due.is("16 one of none", x.back(1), Due.OUTSIDE);
        Due.is("16 no row", new CappedRow().back(0), 0);
    }

    private static void promise17Kinds() {
        CappedRow x = Due.of("r50;p1;b3");
        x.help(0, 0, 0, 1);
        Due.is("17 no readings", x.kinds(0), 7);
        x.reading(0, 6);
        Due.is("17 plain of 1", x.kinds(0), 1);
        Due.is("17 of one who did nothing", x.kinds(1), 7);
        x.back(1);
        x.reading(0, 7);
        Due.is("17 broad and double of 1 are as strong", x.kinds(0), 6);
        Due.is("17 of one who did nothing, by a reading that isn't so", x.kinds(1), 0);
        x.reading(1, 0);
        Due.is("17 what nobody touched is so", x.kinds(0), 6);
        x.reading(1, 1);
        Due.is("17 never", x.kinds(0), 0);
        CappedRow zero = Due.of("r5;b0");
        zero.help(0, 0, 0, 0);
        zero.reading(0, 5);
        Due.is("17 plain and double of 0 are as strong", zero.kinds(0), 5);
        zero.back(1);
        zero.reading(0, 4);
        Due.is("17 lowers", zero.kinds(0), 2);
    }

    private static void promise18Paces() {
        CappedRow x = Due.of("r5;p1");
        x.help(0, 0, 0, 1);
        Due.is("18 no readings", x.paces(0), 1023);
        x.reading(0, 14);
        Due.is("18 plain 9", x.paces(0), 512);
        CappedRow broad = Due.of("r5;b1");
        broad.help(0, 0, 0, 1);
        broad.reading(0, 14);
        Due.is("18 broad 8", broad.paces(0), 256);
        CappedRow twice = Due.of("r5;d1");
        twice.help(0, 0, 0, 0);
        twice.reading(0, -1);
        Due.is("18 double 3", twice.paces(0), 8);
        twice.back(1);
        twice.reading(0, -2);
        Due.is("18 double, never odd", twice.paces(0), 0);
        CappedRow capped = Due.of("r5;p1");
        capped.help(0, 0, 0, 1);
        capped.cap(0, 0, 8);
        capped.reading(0, 8);
        Due.is("18 capped: 3 and more", capped.paces(0), 1023 & ~7);
        capped.add(0, 0, -1);
        Due.is("18 of now, not of when it was read", capped.paces(0), 0);
        capped.back(1);
        capped.reading(0, 7);
        Due.is("18 of now", capped.paces(0), 1023 & ~7);
    }

    private static void guessesOfLaterActs() {
        CappedRow x = Due.of("r50;d2");
        x.help(0, 0, 1, 1);
        x.floor(0, 1, 6);
        x.cap(1, 1, 6);
        x.help(0, 0, 0, 0);
        Due.areNumbers("17 by the acts in their order", x, 5, 2 + 4);
        x.reading(0, 5);
        Due.is("17 by the acts in their order", x.kinds(0), 7);
        Due.is("18 by the acts in their order: not 0, where the floor lifts", x.paces(0), 1022);
        x.reading(1, 6);
        Due.is("18 second cell is 6 by any", x.paces(0), 1022);
    }

    private static void readingsBehindFresh() {
        CappedRow x = Due.of("r5;p1");
        x.help(0, 0, 0, 1);
        x.reading(0, 6);
        Due.is("18 ahead of fresh", x.paces(0), 2);
        x.fresh();
        Due.is("18 behind fresh", x.paces(0), 1023);
        x.help(0, 0, 0, 0);
        Due.is("18 lowered by 0 alone", x.paces(0), 1);
        Due.is("17 lowered by no kind of 1", x.kinds(0), 0);
    }

    private static void guessesChangeNothing() {
        CappedRow x = Due.of("r59;b1;d4");
        x.help(0, 0, 1, 1);
        x.add(0, 0, -3);
        x.reading(0, 4);
        x.kinds(0);
        x.paces(1);
        Due.areNumbers("17 18 change nothing", x, 4, 11);
        Due.areHistoric("17 18 change nothing", x, 7, 11);
        Due.is("17 18 change nothing, kind", x.ofHelper(0, 0), 1);
        Due.is("17 18 change nothing, pace", x.ofHelper(1, 1), 4);
        Due.is("17 18 change nothing, log", x.many(2), 2);
    }

    private static void guessIsOfOneHelperAlone() {
        CappedRow x = Due.of("r00;p1;p2");
        x.help(0, 0, 0, 1);
        x.help(1, 0, 0, 1);
        x.reading(0, 4);
        Due.is("17 alone 0", x.kinds(0), 6);
        Due.is("18 alone 0", x.paces(0), 1 << 2);
        Due.is("17 alone 1", x.kinds(1), 2);
        Due.is("18 alone 1", x.paces(1), 1 << 3);
    }

    private static void unknownHelpers() {
        CappedRow x = Due.of("r5;p1");
        Due.is("17 helper 1", x.kinds(1), Due.UNKNOWN);
        Due.is("17 helper -1", x.kinds(-1), Due.UNKNOWN);
        Due.is("18 helper 1", x.paces(1), Due.UNKNOWN);
        Due.is("18 helper -1", x.paces(-1), Due.UNKNOWN);
        Due.is("17 no row", new CappedRow().kinds(0), Due.UNKNOWN);
        Due.is("18 no row", new CappedRow().paces(0), Due.UNKNOWN);
    }

    private static void areOdds(CappedRow x, int from, int to, long v, long upper, long lower) {
        Due.is("19 odds(" + from + ", " + to + ", " + v + ", 0)", x.odds(from, to, v, 0), upper);
        Due.is("19 odds(" + from + ", " + to + ", " + v + ", 1)", x.odds(from, to, v, 1), lower);
    }

    private static void promise19Odds() {
        CappedRow x = Due.of("r123456789012");
        areOdds(x, 0, 11, 0, 1, 1);
        areOdds(x, 0, 11, 1, 11, 12);
        areOdds(x, 0, 11, 2, 3, 4);
        areOdds(x, 0, 11, 3, 7, 12);
        areOdds(x, 0, 11, 4, 1, 2);
        areOdds(x, 0, 11, 6, 1, 3);
        areOdds(x, 0, 11, 10, 0, 1);
        areOdds(x, 0, 3, 3, 1, 2);
        areOdds(x, 0, 9, 4, 3, 5);
        areOdds(x, 3, 3, 4, 1, 1);
        areOdds(x, 3, 3, 5, 0, 1);
        areOdds(x, 0, 8, 7, 1, 3);
        areOdds(x, 0, 11, Long.MAX_VALUE, 0, 1);
        areOdds(x, 0, 11, Long.MIN_VALUE, 1, 1);
        x.add(0, 11, -5);
        areOdds(x, 0, 11, 1, 1, 3);
        areOdds(x, 0, 11, -4, 11, 12);
    }

    private static void promise19Refusals() {
        CappedRow x = Due.of("r123");
        Due.is("19 from -1", x.odds(-1, 1, 0, 0), Due.LOST);
        Due.is("19 to 3", x.odds(0, 3, 0, 0), Due.LOST);
        Due.is("19 back", x.odds(2, 1, 0, 0), Due.LOST);
        Due.is("19 which 2", x.odds(0, 1, 0, 2), Due.LOST);
        Due.is("19 which -1", x.odds(0, 1, 0, -1), Due.LOST);
        Due.is("19 no row", new CappedRow().odds(0, 0, 0, 0), Due.LOST);
    }
}
