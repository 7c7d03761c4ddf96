import java.util.function.ToLongFunction;

/** Promise 29, fault: the edges that the document names. */
public final class Promise29Test {
    public static void main(String[] args) {
        Promise fault = new Promise(29);
        fault.says("(0 ahead of any)", Promise29Test::aheadOfAny);
        fault.says("The FAULT of the latest call that names one", Promise29Test::eachFault);
        fault.says("0: it came to none", Promise29Test::cameToNone);
        fault.says("or was refused", Promise29Test::wasRefused);
        fault.says("the latest call that names one", Promise29Test::callsThatNameNone);
        fault.says("1 NULL (there is nothing), 2 CAST (it is of another lane, kind), 3 INDEX", Promise29Test::asking);
        fault.end();
    }

    private static void aheadOfAny() {
        CappedRow x = new CappedRow();
        Due.is("a new object", x.fault(), 0);
        x.lose(0);
        x.fresh();
        x.add(0, 0, 0);
        Due.is("behind calls that name none", x.fault(), 0);
    }

    /** busy() with a fault that is none of those due here, then the call. */
    private static void tells(String call, int due, ToLongFunction<CappedRow> called) {
        CappedRow x = Made.busy();
        if (due == 4) {
            x.put(1, -1, 0);
        } else {
            x.sheet(0, 0, -1);
        }
        called.applyAsLong(x);
        Due.is(call, x.fault(), due);
        x.sheet(0, 0, 0);
        Due.is(call + ", then a call that comes to none", x.fault(), 0);
    }

    private static void eachFault() {
        tells("row, cast", 2, x -> x.row(0, 1, 0, 15));
        tells("row, null", 1, x -> x.row(3, 0, 0, 15));
        tells("row, size", 4, x -> x.row(0, 0, 0, -1));
        tells("row, index", 3, x -> x.row(0, 0, 0, 16));
        tells("day, cast", 2, x -> x.day(2, 0, 0, 1, 0));
        tells("day, null", 1, x -> x.day(3, 0, 0, 1, 0));
        tells("day, index", 3, x -> x.day(2, 2, 5, 1, 0));
        tells("sheet, size", 4, x -> x.sheet(3, 0, -1));
        tells("put, null", 1, x -> x.put(3, 0, 0));
        tells("put, index", 3, x -> x.put(1, 4, 0));
        tells("cell, cast", 2, x -> x.cell(1, 0, 0));
        tells("cell, null", 1, x -> x.cell(3, 0, 0));
        tells("cell, index", 3, x -> x.cell(1, 4, 1));
        tells("copy, null", 1, x -> x.copy(3, 0, 0, 0, 1));
        tells("copy, cast", 2, x -> x.copy(1, 0, 0, 0, 1));
        tells("copy, index", 3, x -> x.copy(1, 0, 1, 4, 1));
        tells("as, cast", 2, x -> x.as(0, 1));
    }

    private static void cameToNone() {
        tells("row", 0, x -> x.row(0, 0, 0, 15));
        tells("row, a first fault", 0, x -> x.row(1, 1, 0, 4));
        tells("day", 0, x -> x.day(2, 2, 0, 2, 0));
        tells("day, a first wrong", 0, x -> x.day(2, 2, 1, 1, 0));
        tells("day, no such cell", 0, x -> x.day(2, 2, 0, 2, 25));
        tells("sheet", 0, x -> x.sheet(1, 1, 1));
        tells("put", 0, x -> x.put(1, 0, 0));
        tells("cell", 0, x -> x.cell(1, 0, 1));
        tells("copy", 0, x -> x.copy(1, 0, 1, 1, 1));
        tells("copy, none", 0, x -> x.copy(1, 0, 1, 1, 0));
        tells("as", 0, x -> x.as(2, 1));
    }

    private static void wasRefused() {
        tells("row, unknown", 0, x -> x.row(4, 0, 0, 15));
        tells("row, outside", 0, x -> x.row(0, 3, 0, 15));
        tells("day, unknown", 0, x -> x.day(4, 2, 0, 1, 0));
        tells("day, lane", 0, x -> x.day(2, 3, 0, 1, 0));
        tells("day, n", 0, x -> x.day(2, 2, 0, 13, 0));
        tells("day, n below 0 is no size", 0, x -> x.day(2, 2, 0, -1, 0));
        tells("day, what", 0, x -> x.day(2, 2, 0, 1, 5));
        tells("day, sort", 0, x -> x.day(1, 1, 0, 1, 0));
        tells("sheet, unknown", 0, x -> x.sheet(4, 0, -1));
        tells("sheet, lane", 0, x -> x.sheet(0, 3, -1));
        tells("sheet, n", 0, x -> x.sheet(0, 0, 61));
        tells("put, unknown", 0, x -> x.put(4, 0, 0));
        tells("cell, unknown", 0, x -> x.cell(4, 0, 0));
        tells("cell, outside", 0, x -> x.cell(0, 0, 3));
        tells("copy, unknown", 0, x -> x.copy(4, 0, 0, 0, 1));
        tells("copy, unknown", 0, x -> x.copy(0, 0, 4, 0, 1));
        tells("as, unknown", 0, x -> x.as(3, 0));
        tells("as, outside", 0, x -> x.as(0, 3));
        CappedRow x = Made.withoutRow();
        x.put(1, 4, 0);
        x.day(2, 2, 0, 1, 0);
        Due.is("day, state", x.fault(), 0);
    }

    private static void leaves(String call, ToLongFunction<CappedRow> called) {
        CappedRow x = Made.busy();
        x.put(1, 4, 0);
        called.applyAsLong(x);
        Due.is(call + " leaves it", x.fault(), 3);
    }

    /** Each as it is answered, and as it is refused. */
    private static void callsThatNameNone() {
        leaves("ofHelper", x -> x.ofHelper(0, 0) + x.ofHelper(3, 0));
        leaves("at", x -> x.at(0, 0) + x.at(5, 0));
        leaves("add", x -> x.add(0, 0, 1) + x.add(0, 5, 1));
        leaves("cap", x -> x.cap(0, 0, 1) + x.cap(1, 0, 1));
        leaves("floor", x -> x.floor(0, 0, 1) + x.floor(1, 0, 1));
        leaves("help", x -> x.help(0, 0, 0, 1) + x.help(3, 0, 0, 1));
        leaves("fresh", CappedRow::fresh);
        leaves("ask", x -> x.ask(0, 0, 0) + x.ask(0, 5, 0));
        leaves("ofSpan", x -> x.ofSpan(1, 0) + x.ofSpan(0, 0));
        leaves("looks", x -> x.looks(0, 0, 0) + x.looks(0, 5, 0));
        leaves("unlike", CappedRow::unlike);
        leaves("reading", x -> x.reading(0, 0) + x.reading(5, 0));
        leaves("back", x -> x.back(1) + x.back(9));
        leaves("kinds", x -> x.kinds(0) + x.kinds(3));
        leaves("paces", x -> x.paces(0) + x.paces(3));
        leaves("odds", x -> x.odds(0, 0, 0, 0) + x.odds(0, 5, 0, 0));
        leaves("lose", x -> x.lose(0) + x.lose(3) + x.lose(4));
        leaves("tell", x -> x.tell(0) + x.tell(3));
        leaves("cheer", x -> x.cheer(0) + x.cheer(3));
        leaves("trace", CappedRow::trace);
        leaves("many", x -> x.many(0) + x.many(5));
    }

    private static void asking() {
        CappedRow x = Made.busy();
        x.put(1, 4, 0);
        Due.is("asked", x.fault(), 3);
        Due.is("asked again", x.fault(), 3);
        Twins.changesNothing("it changes nothing", Made::busy, CappedRow::fault, 4);
    }
}
