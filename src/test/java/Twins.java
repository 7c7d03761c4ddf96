import java.util.function.Supplier;
import java.util.function.ToLongFunction;

/**
 * Two objects made by the same calls, one of which gets a call more: if that call changes nothing, then
 * all that later calls show of the two is alike.
 */
final class Twins {
    private static final int STAYS = -1;

    private final String what;
    private final CappedRow called;
    private final CappedRow left;

    private Twins(String what, Supplier<CappedRow> made) {
        this.what = what;
        this.called = made.get();
        this.left = made.get();
    }

    /** A call that names no FAULTS: it answers what is due, and changes nothing, fault() neither. */
    static void changesNothing(String what, Supplier<CappedRow> made, ToLongFunction<CappedRow> call, long due) {
        new Twins(what, made).compare(call, due, STAYS);
    }

    /** A call that names FAULTS: it answers what is due, and changes nothing but what fault() tells then. */
    static void changesFaultAlone(String what, Supplier<CappedRow> made, ToLongFunction<CappedRow> call, long due,
            int fault) {
        new Twins(what, made).compare(call, due, fault);
    }

    /** A call that names FAULTS and is refused, or comes to none. */
    static void refuses(String what, Supplier<CappedRow> made, ToLongFunction<CappedRow> call, long due) {
        changesFaultAlone(what, made, call, due, 0);
    }

    /** A call that comes to a FAULT, told as what it answers where an int is answered. */
    static void fails(String what, Supplier<CappedRow> made, ToLongFunction<CappedRow> call, int answer) {
        changesFaultAlone(what, made, call, answer, -10 - answer);
    }

    private void compare(ToLongFunction<CappedRow> call, long due, int fault) {
        int ahead = comeToAnotherFault(called, fault);
        comeToAnotherFault(left, fault);
        Due.is(what, call.applyAsLong(called), due);
        Due.is(what + ", fault()", called.fault(), fault == STAYS ? ahead : fault);
        counts();
        numbers();
        spans();
        helpers();
        sheets();
        readings();
        same("fresh()", CappedRow::fresh);
        numbers();
    }

    /** Else fault() would not show whether the call has told its own. */
    private static int comeToAnotherFault(CappedRow x, int fault) {
        if (fault == 4) {
            x.put(0, -1, 0);
        } else {
            x.sheet(0, 0, -1);
        }
        return x.fault();
    }

    private void same(String call, ToLongFunction<CappedRow> asked) {
        Due.is(what + ", then " + call, asked.applyAsLong(called), asked.applyAsLong(left));
    }

    private void counts() {
        for (int w = 0; w <= 4; w++) {
            int part = w;
            same("many(" + w + ")", x -> x.many(part));
        }
        same("trace()", CappedRow::trace);
    }

    private void numbers() {
        for (int c = 0; c <= 16; c++) {
            int k = c;
            same("at(" + k + ", 0)", x -> x.at(k, 0));
            same("at(" + k + ", 1)", x -> x.at(k, 1));
        }
    }

    private void spans() {
        for (int n = 1; n <= 31; n++) {
            int s = n;
            same("ofSpan(" + s + ", 0)", x -> x.ofSpan(s, 0));
            same("ofSpan(" + s + ", 1)", x -> x.ofSpan(s, 1));
        }
        same("unlike()", CappedRow::unlike);
    }

    private void helpers() {
        for (int n = 0; n <= 3; n++) {
            int h = n;
            for (int w = 0; w <= 3; w++) {
                int part = w;
                same("ofHelper(" + h + ", " + w + ")", x -> x.ofHelper(h, part));
            }
            guesses(h);
        }
    }

    private void guesses(int h) {
        same("kinds(" + h + ")", x -> x.kinds(h));
        same("paces(" + h + ")", x -> x.paces(h));
    }

    private void sheets() {
        for (int n = 0; n <= 3; n++) {
            int k = n;
            for (int l = 0; l <= 2; l++) {
                int lane = l;
                same("cell(" + k + ", -1, " + lane + ")", x -> x.cell(k, -1, lane));
                same("fault()", CappedRow::fault);
                if (left.fault() == 3) {
                    cells(k, lane);
                }
            }
        }
    }

    private void cells(int k, int lane) {
        for (int c = 0; c <= 60; c++) {
            int i = c;
            same("cell(" + k + ", " + i + ", " + lane + ")", x -> x.cell(k, i, lane));
            if (left.cell(k, i, lane) == Due.LOST) {
                return;
            }
        }
    }

    /** What a READING says is shown only by what can be, once those behind it are taken back. */
    private void readings() {
        for (int r = left.many(4); r > 0; r--) {
            same("back(1)", x -> x.back(1));
            guesses(0);
            guesses(2);
        }
    }
}
