/** Promises 5 to 9: add, cap, floor, help, fresh. */
public final class ActsTest {
    private static final long FAR = 1000000000000L;

    public static void main(String[] args) {
        promise5Add();
        promise5Refusals();
        promise6Cap();
        promise6Refusals();
        promise7Floor();
        promise7Refusals();
        promise8Help();
        promise8Refusals();
        promise9Fresh();
        fullLog();
        historicBehindEachAct();
        Due.end("ActsTest");
    }

    private static void promise5Add() {
        CappedRow x = Due.of("r1234");
        Due.is("5 first", x.add(1, 2, 10), 1);
        Due.areNumbers("5 first", x, 1, 12, 13, 4);
        Due.is("5 one cell", x.add(3, 3, -5), 2);
        Due.areNumbers("5 one cell", x, 1, 12, 13, -1);
        Due.areHistoric("5 one cell", x, 1, 12, 13, 4);
        Due.is("5 nothing is an act, too", x.add(0, 3, 0), 3);
        Due.is("5 farthest up", x.add(0, 0, FAR), 4);
        Due.is("5 farthest down", x.add(1, 1, -FAR), 5);
        Due.areNumbers("5 far", x, FAR + 1, 12 - FAR, 13, -1);
        Due.areHistoric("5 far", x, FAR + 1, 12, 13, 4);
        Due.is("5 log", x.many(2), 5);
    }

    private static void promise5Refusals() {
        CappedRow x = Due.of("r1234");
        Due.is("5 from -1", x.add(-1, 2, FAR + 1), Due.UNKNOWN);
        Due.is("5 from 4", x.add(4, 4, 0), Due.UNKNOWN);
        Due.is("5 to 4", x.add(0, 4, 0), Due.UNKNOWN);
        Due.is("5 to -1, back", x.add(2, -1, 0), Due.UNKNOWN);
        Due.is("5 from 4, back", x.add(4, 2, 0), Due.UNKNOWN);
        Due.is("5 back", x.add(2, 1, 0), Due.OUTSIDE);
        Due.is("5 v up", x.add(0, 1, FAR + 1), Due.OUTSIDE);
        Due.is("5 v down", x.add(0, 1, -FAR - 1), Due.OUTSIDE);
        Due.is("5 v farthest", x.add(0, 1, Long.MIN_VALUE), Due.OUTSIDE);
        Due.areNumbers("5 refused", x, 1, 2, 3, 4);
        Due.is("5 refused, log", x.many(2), 0);
        Due.is("5 no row", new CappedRow().add(0, 0, 0), Due.UNKNOWN);
    }

    private static void promise6Cap() {
        CappedRow x = Due.of("r52729");
        Due.is("6 some", x.cap(0, 4, 6), 2);
        Due.areNumbers("6 some", x, 5, 2, 6, 2, 6);
        Due.areHistoric("6 some", x, 5, 2, 7, 2, 9);
        Due.is("6 none", x.cap(0, 4, 6), 0);
        Due.is("6 none is an act, too", x.many(2), 2);
        Due.is("6 part", x.cap(1, 2, -3), 2);
        Due.areNumbers("6 part", x, 5, -3, -3, 2, 6);
        Due.is("6 farthest up", x.cap(0, 4, FAR), 0);
        Due.is("6 farthest down", x.cap(0, 0, -FAR), 1);
        Due.is("6 farthest down", x.at(0, 0), -FAR);
        Due.is("6 log", x.many(2), 5);
    }

    private static void promise6Refusals() {
        CappedRow x = Due.of("r1234");
        Due.is("6 from -1", x.cap(-1, 0, FAR + 1), Due.UNKNOWN);
        Due.is("6 to 4", x.cap(3, 4, 0), Due.UNKNOWN);
        Due.is("6 to -1, back", x.cap(2, -1, 0), Due.UNKNOWN);
        Due.is("6 back", x.cap(3, 2, 0), Due.OUTSIDE);
        Due.is("6 v up", x.cap(0, 3, FAR + 1), Due.OUTSIDE);
        Due.is("6 v down", x.cap(0, 3, -FAR - 1), Due.OUTSIDE);
        Due.areNumbers("6 refused", x, 1, 2, 3, 4);
        Due.is("6 refused, log", x.many(2), 0);
        Due.is("6 no row", new CappedRow().cap(0, 0, 0), Due.UNKNOWN);
    }

    private static void promise7Floor() {
        CappedRow x = Due.of("r52729");
        Due.is("7 some", x.floor(0, 3, 6), 3);
        Due.areNumbers("7 some", x, 6, 6, 7, 6, 9);
        Due.areHistoric("7 some", x, 6, 6, 7, 6, 9);
        Due.is("7 none", x.floor(0, 4, 6), 0);
        Due.is("7 none is an act, too", x.many(2), 2);
        Due.is("7 farthest down", x.floor(0, 4, -FAR), 0);
        Due.is("7 farthest up", x.floor(4, 4, FAR), 1);
        Due.areNumbers("7 farthest up", x, 6, 6, 7, 6, FAR);
    }

    private static void promise7Refusals() {
        CappedRow x = Due.of("r1234");
        Due.is("7 from -1", x.floor(-1, 0, FAR + 1), Due.UNKNOWN);
        Due.is("7 to 4", x.floor(3, 4, 0), Due.UNKNOWN);
        Due.is("7 from 4, back", x.floor(4, 2, 0), Due.UNKNOWN);
        Due.is("7 back", x.floor(3, 2, 9), Due.OUTSIDE);
        Due.is("7 v up", x.floor(0, 3, FAR + 1), Due.OUTSIDE);
        Due.is("7 v down", x.floor(0, 3, -FAR - 1), Due.OUTSIDE);
        Due.areNumbers("7 refused", x, 1, 2, 3, 4);
        Due.is("7 refused, log", x.many(2), 0);
        Due.is("7 no row", new CappedRow().floor(0, 0, 0), Due.UNKNOWN);
    }

    private static void promise8Help() {
        CappedRow x = Due.of("r1234;p3;b3;d3");
        Due.is("8 plain lifts", x.help(0, 0, 1, 1), 3);
        Due.areNumbers("8 plain lifts", x, 4, 5, 3, 4);
        Due.is("8 broad lowers", x.help(1, 1, 3, 0), 4);
        Due.areNumbers("8 broad lowers", x, 4, 1, -1, 0);
        Due.areHistoric("8 broad lowers", x, 4, 5, 3, 4);
        Due.is("8 double lifts", x.help(2, 3, 3, 1), 6);
        Due.areNumbers("8 double lifts", x, 4, 1, -1, 6);
        Due.areHistoric("8 double lifts", x, 4, 5, 3, 6);
        Due.is("8 log", x.many(2), 3);
    }

    private static void promise8Refusals() {
        CappedRow x = Due.of("r1234;p3");
        Due.is("8 helper 1", x.help(1, 0, 1, 9), Due.UNKNOWN);
        Due.is("8 helper -1", x.help(-1, 0, 1, 1), Due.UNKNOWN);
        Due.is("8 from -1", x.help(0, -1, 1, 9), Due.UNKNOWN);
        Due.is("8 to 4", x.help(0, 0, 4, 1), Due.UNKNOWN);
        Due.is("8 from 4, back", x.help(0, 4, 1, 1), Due.UNKNOWN);
        Due.is("8 back", x.help(0, 2, 1, 1), Due.OUTSIDE);
        Due.is("8 way 2", x.help(0, 0, 1, 2), Due.OUTSIDE);
        Due.is("8 way -1", x.help(0, 0, 1, -1), Due.OUTSIDE);
        Due.areNumbers("8 refused", x, 1, 2, 3, 4);
        Due.is("8 refused, log", x.many(2), 0);
        Due.is("8 no row", new CappedRow().help(0, 0, 0, 0), Due.UNKNOWN);
    }

    private static void promise9Fresh() {
        CappedRow x = Due.of("r19;p2");
        x.help(0, 0, 1, 1);
        x.cap(0, 1, 5);
        x.reading(0, 3);
        Due.areHistoric("9 ahead of it", x, 3, 11);
        Due.is("9 how many there were", x.fresh(), 2);
        Due.areNumbers("9", x, 3, 5);
        Due.areHistoric("9", x, 3, 5);
        Due.is("9 log", x.many(2), 0);
        Due.is("9 acts of the helper", x.ofHelper(0, 3), 0);
        Due.is("9 readings stay", x.many(4), 1);
        Due.is("9 helpers stay", x.many(1), 1);
        Due.is("9 again", x.fresh(), 0);
        x.help(0, 0, 0, 1);
        x.back(1);
        x.reading(0, 5);
        Due.is("9 guesses begin with these numbers", x.paces(0), 1 << 2);
        CappedRow none = new CappedRow();
        Due.is("9 no row", none.fresh(), Due.STATE);
    }

    private static void fullLog() {
        CappedRow x = Due.of("r1;p1");
        for (int a = 1; a <= 21; a++) {
            Due.is("5 log grows", x.add(0, 0, 1), a);
        }
        Due.is("6 22nd", x.cap(0, 0, 9), 1);
        Due.is("7 23rd", x.floor(0, 0, 10), 1);
        Due.is("8 24th", x.help(0, 0, 0, 1), 1);
        Due.is("5 25th", x.add(0, 0, 1), Due.FULL);
        Due.is("6 25th", x.cap(0, 0, 1), Due.FULL);
        Due.is("7 25th", x.floor(0, 0, 99), Due.FULL);
        Due.is("8 25th", x.help(0, 0, 0, 0), Due.FULL);
        Due.is("5 refused ahead of full", x.add(1, 0, 1), Due.UNKNOWN);
        Due.is("5 refused ahead of full", x.add(0, 0, FAR + 1), Due.OUTSIDE);
        Due.is("6 refused ahead of full", x.cap(0, 0, FAR + 1), Due.OUTSIDE);
        Due.is("7 refused ahead of full", x.floor(0, 0, -FAR - 1), Due.OUTSIDE);
        Due.is("8 refused ahead of full", x.help(0, 0, 0, 2), Due.OUTSIDE);
        Due.is("8 refused ahead of full", x.help(1, 0, 0, 2), Due.UNKNOWN);
        Due.areNumbers("full", x, 11);
        Due.is("full, log", x.many(2), 24);
        Due.is("full, helper's", x.ofHelper(0, 3), 1);
        Due.is("9 of a full log", x.fresh(), 24);
        Due.is("5 behind fresh", x.add(0, 0, 1), 1);
    }

    private static void historicBehindEachAct() {
        CappedRow x = Due.of("r5");
        x.add(0, 0, -10);
        x.floor(0, 0, 7);
        x.cap(0, 0, 2);
        x.add(0, 0, 4);
        Due.is("historic: the 7 in between", x.at(0, 1), 7);
        Due.is("historic: number", x.at(0, 0), 6);
        CappedRow low = Due.of("r0");
        low.add(0, 0, -3);
        low.fresh();
        Due.is("historic below 0", low.at(0, 1), -3);
        low.add(0, 0, 1);
        Due.is("historic below 0, then", low.at(0, 1), -2);
    }
}
