/** Counts the answers of one test and tells each that is not as due; also makes rows and sheets for the tests. */
final class Due {
    static final long LOST = CappedRow.LOST;
    static final int UNKNOWN = CappedRow.UNKNOWN, OUTSIDE = CappedRow.OUTSIDE, STATE = CappedRow.STATE;
    static final int FULL = CappedRow.FULL, NONE = CappedRow.NONE;
    /** What a call answers that comes to a fault. */
    static final int NULL = -11, CAST = -12, INDEX = -13, SIZE = -14;

    private static int asked = 0;
    private static int wrong = 0;
    /** The test that is going on, so that an answer that is not as due can be told by it. */
    private static String test = "";

    private Due() {
    }

    static void begin(String name) {
        test = name + ": ";
    }

    static int howManyAsked() {
        return asked;
    }

    static void is(String what, long got, long due) {
        asked++;
        if (got != due) {
            wrong++;
            System.out.println(test + what + ": answered " + got + ", due is " + due);
        }
    }

    static void isSo(String what, boolean so) {
        is(what, so ? 1 : 0, 1);
    }

    /** A call that answers LOST, and what fault() tells behind it. */
    static void isLost(String what, CappedRow x, long got, int fault) {
        is(what, got, LOST);
        is(what + ", fault()", x.fault(), fault);
    }

    /** A call that names faults, and that came to none or was refused. */
    static void isWithout(String what, CappedRow x, long got, long due) {
        is(what, got, due);
        is(what + ", fault()", x.fault(), 0);
    }

    /** A call that comes to a fault (told as what it answers). */
    static void isFault(String what, CappedRow x, long got, int answer) {
        is(what, got, answer);
        is(what + ", fault()", x.fault(), -10 - answer);
    }

    static void end(String test) {
        System.out.println(test + ": " + asked + " answers, " + wrong + " not as due");
        if (wrong != 0 || asked == 0) {
            System.exit(1);
        }
    }

    static void write(CappedRow x, int sheet, int lane, int... cells) {
        x.sheet(sheet, lane, cells.length);
        for (int i = 0; i < cells.length; i++) {
            x.put(sheet, i, cells[i]);
        }
    }

    static int[] codes(String text) {
        return text.chars().toArray();
    }

    static int take(CappedRow x, String text) {
        write(x, 0, 0, codes(text));
        return x.row(0, 0, 0, text.length());
    }

    static CappedRow of(String text) {
        CappedRow x = new CappedRow();
        if (take(x, text) <= 0) {
            throw new IllegalStateException(text + " is no text");
        }
        return x;
    }

    static void areNumbers(String what, CappedRow x, long... due) {
        is(what + ", how many", x.many(0), due.length);
        for (int k = 0; k < due.length; k++) {
            is(what + ", number " + k, x.at(k, 0), due[k]);
        }
    }

    static void areHistoric(String what, CappedRow x, long... due) {
        for (int k = 0; k < due.length; k++) {
            is(what + ", historic " + k, x.at(k, 1), due[k]);
        }
    }
}
