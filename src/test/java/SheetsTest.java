/** Promises 20 to 30: sheet, lose, put, cell, copy, tell, cheer, as, trace, fault, many. */
public final class SheetsTest {
    public static void main(String[] args) {
        promise20Sheet();
        promise21Lose();
        promise22Put();
        promise23Cell();
        promise24Copy();
        promise24SameSheet();
        promise24RefusalsAndFaults();
        promise25Tell();
        promise26Cheer();
        promise27As();
        promise28Trace();
        promise29Fault();
        promise30Many();
        Due.end("SheetsTest");
    }

    private static void areCells(String what, CappedRow x, int k, int lane, int... due) {
        for (int i = 0; i < due.length; i++) {
            Due.isWithout(what + ", cell " + i, x, x.cell(k, i, lane), due[i]);
        }
        Due.isLost(what + ", no more", x, x.cell(k, due.length, lane), 3);
    }

    private static void promise20Sheet() {
        CappedRow x = new CappedRow();
        for (int k = 0; k < 4; k++) {
            Due.isWithout("20 sheet " + k, x, x.sheet(k, k % 3, k == 0 ? 60 : 10 - k), 1);
        }
        areCells("20 longest", x, 0, 0, new int[60]);
        areCells("20 of another length", x, 3, 0, new int[7]);
        x.put(0, 2, 7);
        Due.isWithout("20 a new row", x, x.sheet(0, 1, 3), 1);
        areCells("20 a new row is of 0s", x, 0, 1, 0, 0, 0);
        Due.isWithout("20 an empty row", x, x.sheet(0, 2, 0), 1);
        areCells("20 an empty row", x, 0, 2);
        Due.isWithout("20 sheet -1", x, x.sheet(-1, 9, -1), Due.UNKNOWN);
        Due.isWithout("20 sheet 4", x, x.sheet(4, 0, 1), Due.UNKNOWN);
        Due.isWithout("20 lane 3 ahead of size", x, x.sheet(1, 3, -1), Due.OUTSIDE);
        Due.isWithout("20 lane -1", x, x.sheet(1, -1, 1), Due.OUTSIDE);
        Due.isWithout("20 n 61", x, x.sheet(1, 1, 61), Due.OUTSIDE);
        Due.isWithout("20 n far", x, x.sheet(1, 1, Integer.MAX_VALUE), Due.OUTSIDE);
        Due.isFault("20 n -1", x, x.sheet(1, 0, -1), Due.SIZE);
        Due.isFault("20 n far below", x, x.sheet(1, 1, Integer.MIN_VALUE), Due.SIZE);
        areCells("20 refused changes nothing", x, 1, 1, new int[9]);
    }

    private static void promise21Lose() {
        CappedRow x = new CappedRow();
        Due.is("21 it had nothing", x.lose(2), 0);
        x.sheet(2, 1, 0);
        Due.is("21 an empty row is something", x.lose(2), 1);
        Due.is("21 it had nothing then", x.lose(2), 0);
        Due.isLost("21 nothing is there", x, x.cell(2, 0, 1), 1);
        Due.is("21 sheet 4", x.lose(4), Due.UNKNOWN);
        Due.is("21 sheet -1", x.lose(-1), Due.UNKNOWN);
        x.sheet(2, 0, 2);
        areCells("21 a new row behind it", x, 2, 0, 0, 0);
        CappedRow row = Due.of("r12");
        row.lose(0);
        Due.areNumbers("21 the row stays", row, 1, 2);
    }

    private static void promise22Put() {
        CappedRow x = new CappedRow();
        Due.write(x, 0, 0, 127, 128, -129, 256, -1);
        areCells("22 bytes", x, 0, 0, 127, -128, 127, 0, -1);
        Due.write(x, 1, 1, 32767, 32768, -32769, 65536, 128);
        areCells("22 shorts", x, 1, 1, 32767, -32768, 32767, 0, 128);
        Due.write(x, 2, 2, Integer.MAX_VALUE, Integer.MIN_VALUE, 65536);
        areCells("22 ints", x, 2, 2, Integer.MAX_VALUE, Integer.MIN_VALUE, 65536);
        Due.isWithout("22 put", x, x.put(0, 4, 5), 1);
        Due.isWithout("22 sheet 4", x, x.put(4, -1, 1), Due.UNKNOWN);
        Due.isWithout("22 sheet -1", x, x.put(-1, 0, 1), Due.UNKNOWN);
        Due.isFault("22 nothing", x, x.put(3, -1, 1), Due.NULL);
        Due.isFault("22 index 5", x, x.put(0, 5, 1), Due.INDEX);
        Due.isFault("22 index -1", x, x.put(0, -1, 1), Due.INDEX);
        Due.isFault("22 index far", x, x.put(0, Integer.MAX_VALUE, 1), Due.INDEX);
        areCells("22 then", x, 0, 0, 127, -128, 127, 0, 5);
    }

    private static void promise23Cell() {
        CappedRow x = new CappedRow();
        Due.write(x, 1, 1, 4, 5);
        Due.isWithout("23 cell", x, x.cell(1, 1, 1), 5);
        Due.isLost("23 sheet 4", x, x.cell(4, 0, 9), 0);
        Due.isLost("23 sheet -1", x, x.cell(-1, 0, 1), 0);
        Due.isLost("23 cast", x, x.cell(1, 9, 0), 2);
        Due.isLost("23 lane 3 ahead of faults", x, x.cell(1, 9, 3), 0);
        Due.isLost("23 cast", x, x.cell(1, 0, 2), 2);
        Due.isLost("23 lane -1 ahead of faults", x, x.cell(0, 9, -1), 0);
        Due.isLost("23 nothing is no cast", x, x.cell(0, 9, 0), 1);
        Due.isLost("23 nothing is no cast", x, x.cell(0, 0, 2), 1);
        Due.isLost("23 index 2", x, x.cell(1, 2, 1), 3);
        Due.isLost("23 index -1", x, x.cell(1, -1, 1), 3);
    }

    private static void promise24Copy() {
        CappedRow x = new CappedRow();
        Due.write(x, 0, 1, 1, 2, 3, 4);
        Due.write(x, 1, 1, 9, 8, 7);
        Due.isWithout("24 two", x, x.copy(0, 2, 1, 0, 2), 2);
        areCells("24 two", x, 1, 1, 3, 4, 7);
        areCells("24 the first one stays", x, 0, 1, 1, 2, 3, 4);
        Due.isWithout("24 none", x, x.copy(0, 0, 1, 0, 0), 0);
        Due.isWithout("24 none, at both ends", x, x.copy(0, 4, 1, 3, 0), 0);
        areCells("24 none", x, 1, 1, 3, 4, 7);
        Due.isWithout("24 all", x, x.copy(1, 0, 0, 1, 3), 3);
        areCells("24 all", x, 0, 1, 1, 3, 4, 7);
    }

    private static void promise24SameSheet() {
        CappedRow x = new CappedRow();
        Due.write(x, 0, 2, 1, 2, 3, 4, 5);
        Due.isWithout("24 same, up", x, x.copy(0, 0, 0, 1, 4), 4);
        areCells("24 same, up", x, 0, 2, 1, 1, 2, 3, 4);
        Due.isWithout("24 same, down", x, x.copy(0, 2, 0, 0, 3), 3);
        areCells("24 same, down", x, 0, 2, 2, 3, 4, 3, 4);
        Due.isWithout("24 same place", x, x.copy(0, 0, 0, 0, 5), 5);
        areCells("24 same place", x, 0, 2, 2, 3, 4, 3, 4);
    }

    private static void promise24RefusalsAndFaults() {
        CappedRow x = new CappedRow();
        Due.write(x, 0, 1, 1, 2, 3, 4);
        Due.write(x, 1, 1, 9, 8, 7);
        Due.write(x, 2, 2, 5, 5);
        Due.isWithout("24 sheet 4", x, x.copy(4, -1, 3, -1, -1), Due.UNKNOWN);
        Due.isWithout("24 other 4", x, x.copy(3, -1, 4, -1, -1), Due.UNKNOWN);
        Due.isWithout("24 sheet -1", x, x.copy(-1, 0, 0, 0, 1), Due.UNKNOWN);
        Due.isWithout("24 other -1", x, x.copy(0, 0, -1, 0, 1), Due.UNKNOWN);
        Due.isFault("24 the first has nothing", x, x.copy(3, -1, 0, -1, -1), Due.NULL);
        Due.isFault("24 the other has nothing", x, x.copy(0, -1, 3, -1, -1), Due.NULL);
        Due.isFault("24 both have nothing", x, x.copy(3, 0, 3, 0, 0), Due.NULL);
        Due.isFault("24 unlike lanes", x, x.copy(0, -1, 2, -1, -1), Due.CAST);
        Due.isFault("24 unlike lanes, none taken", x, x.copy(2, 0, 1, 0, 0), Due.CAST);
        int[][] beyond = {
            {-1, 0, 1}, {0, -1, 1}, {0, 0, -1}, {0, 0, 4}, {2, 0, 3}, {0, 1, 3}, {5, 0, 0}, {0, 4, 0},
            {-1, 0, 0}, {0, -1, 0}, {1, 0, Integer.MAX_VALUE}, {Integer.MAX_VALUE, 0, 1},
            {0, Integer.MAX_VALUE, 1}, {0, 0, Integer.MIN_VALUE}};
        for (int[] b : beyond) {
            Due.isFault("24 index " + b[0] + " " + b[1] + " " + b[2], x, x.copy(0, b[0], 1, b[1], b[2]), Due.INDEX);
        }
        areCells("24 refused changes nothing", x, 0, 1, 1, 2, 3, 4);
        areCells("24 refused changes nothing", x, 1, 1, 9, 8, 7);
        areCells("24 refused changes nothing", x, 2, 2, 5, 5);
    }

    /** What the trace is behind these bodies, one behind another, by wide numbers cut at the end. */
    private static int traceOf(int... bodies) {
        java.math.BigInteger trace = java.math.BigInteger.ZERO;
        for (int body : bodies) {
            trace = trace.multiply(java.math.BigInteger.valueOf(31)).add(java.math.BigInteger.valueOf(body));
        }
        return trace.intValue();
    }

    private static void promise25Tell() {
        CappedRow x = Due.of("r1;p7;b7;d7");
        Due.is("25 plain", x.tell(0), 7);
        Due.is("25 plain, trace", x.trace(), traceOf(1));
        Due.is("25 broad", x.tell(1), 107);
        Due.is("25 broad, trace", x.trace(), traceOf(1, 2, 1));
        Due.is("25 double", x.tell(2), 114);
        Due.is("25 double, trace", x.trace(), traceOf(1, 2, 1, 3, 2, 1, 1));
        Due.is("25 helper 3", x.tell(3), Due.UNKNOWN);
        Due.is("25 helper -1", x.tell(-1), Due.UNKNOWN);
        Due.is("25 refused, trace", x.trace(), traceOf(1, 2, 1, 3, 2, 1, 1));
        Due.is("25 double of 0", Due.of("r1;d0").tell(0), 100);
    }

    private static void promise26Cheer() {
        CappedRow x = Due.of("r1;d3;b7;p5");
        Due.is("26 double", x.cheer(0), 60);
        Due.is("26 double, trace", x.trace(), traceOf(5));
        Due.is("26 broad", x.cheer(1), 1);
        Due.is("26 broad, trace", x.trace(), traceOf(5, 4));
        Due.is("26 plain", x.cheer(2), 2);
        Due.is("26 plain, trace", x.trace(), traceOf(5, 4, 4));
        Due.is("26 helper 3", x.cheer(3), Due.UNKNOWN);
        Due.is("26 helper -1", x.cheer(-1), Due.UNKNOWN);
        Due.is("26 refused, trace", x.trace(), traceOf(5, 4, 4));
    }

    private static void promise27As() {
        CappedRow x = Due.of("r1;p3;b7;d5");
        for (int h = 0; h < 3; h++) {
            for (int kind = 0; kind < 3; kind++) {
                if (kind <= h) {
                    Due.isWithout("27 as(" + h + ", " + kind + ")", x, x.as(h, kind), 1);
                } else {
                    Due.isFault("27 as(" + h + ", " + kind + ")", x, x.as(h, kind), Due.CAST);
                }
            }
        }
        Due.isWithout("27 kind 3", x, x.as(0, 3), Due.OUTSIDE);
        Due.isWithout("27 kind -1", x, x.as(2, -1), Due.OUTSIDE);
        Due.isWithout("27 helper 3", x, x.as(3, 3), Due.UNKNOWN);
        Due.isWithout("27 helper -1", x, x.as(-1, 0), Due.UNKNOWN);
        Due.is("27 it stays what it is", x.ofHelper(2, 0), 2);
    }

    private static void promise28Trace() {
        CappedRow x = Due.of("r1;d9;p0");
        int[] bodies = new int[5 * 20];
        for (int t = 0; t < 20; t++) {
            x.tell(0);
            x.cheer(1);
            int[] left = {3, 2, 1, 1, 4};
            System.arraycopy(left, 0, bodies, 5 * t, 5);
            Due.is("28 wraps", x.trace(), traceOf(java.util.Arrays.copyOf(bodies, 5 * t + 5)));
        }
        int trace = x.trace();
        x.fresh();
        x.as(0, 1);
        x.help(0, 0, 0, 1);
        x.kinds(0);
        Due.is("28 no other call leaves anything", x.trace(), trace);
    }

    private static void promise29Fault() {
        CappedRow x = Due.of("r1;p3");
        Due.is("29 none", x.fault(), 0);
        x.as(0, 2);
        Due.is("29 as: cast", x.fault(), 2);
        x.lose(0);
        x.lose(9);
        x.add(0, 0, 1);
        x.at(9, 9);
        x.ofHelper(9, 9);
        x.cap(0, 9, 0);
        x.floor(0, 0, 0);
        x.help(9, 0, 0, 0);
        x.fresh();
        x.ask(9, 9, 9);
        x.ofSpan(9, 9);
        x.looks(0, 0, 0);
        x.unlike();
        x.reading(9, 9);
        x.back(9);
        x.kinds(9);
        x.paces(0);
        x.odds(9, 9, 9, 9);
        x.tell(9);
        x.cheer(0);
        x.trace();
        x.many(9);
        Due.is("29 calls that name none leave it", x.fault(), 2);
        Due.is("29 asking leaves it", x.fault(), 2);
        x.put(0, 0, 0);
        Due.is("29 put: null", x.fault(), 1);
        x.put(9, 0, 0);
        Due.is("29 put: refused", x.fault(), 0);
        x.sheet(0, 0, -1);
        Due.is("29 sheet: size", x.fault(), 4);
        x.sheet(0, 0, 3);
        Due.is("29 sheet: none", x.fault(), 0);
        x.cell(0, 3, 0);
        Due.is("29 cell: index", x.fault(), 3);
        x.copy(0, 0, 0, 1, 2);
        Due.is("29 copy: none", x.fault(), 0);
        x.copy(0, 0, 1, 1, 2);
        Due.is("29 copy: null", x.fault(), 1);
        x.row(0, 0, 0, 3);
        Due.is("29 row: a first fault is none of the machine's", x.fault(), 0);
        x.row(0, 0, 0, -3);
        Due.is("29 row: size", x.fault(), 4);
        x.day(0, 0, 0, 0, 0);
        Due.is("29 day: none", x.fault(), 0);
        x.day(0, 0, 0, 1, 0);
        Due.is("29 day: index", x.fault(), 3);
    }

    private static void promise30Many() {
        CappedRow x = Due.of("r12345;p3;b1");
        x.add(0, 1, 1);
        x.add(0, 1, 1);
        x.add(0, 1, 1);
        x.reading(0, 1);
        long[] due = {5, 2, 3, 9, 1};
        for (int what = 0; what < 5; what++) {
            Due.is("30 many(" + what + ")", x.many(what), due[what]);
        }
        Due.is("30 what 5", x.many(5), Due.OUTSIDE);
        Due.is("30 what -1", x.many(-1), Due.OUTSIDE);
        Due.is("30 no row, what 5", new CappedRow().many(5), Due.OUTSIDE);
    }
}
