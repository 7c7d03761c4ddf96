import java.util.function.Supplier;

/** Promise 2, row: the edges that the document names. */
public final class Promise02Test {
    public static void main(String[] args) {
        Promise row = new Promise(2);
        row.says("r, then 1 to 16 digits 0 .. 9 (NUMBERS of CELLS 0, 1, ..)", Promise02Test::cells);
        row.says("a 17th CELL", Promise02Test::seventeenthCell);
        row.says("then 0 to 3 HELPERS, numbered from 0 on", Promise02Test::helpers);
        row.says("the ; of a fourth HELPER", Promise02Test::fourthHelper);
        row.says("(Codes: r 114, p 112, b 98, d 100, ; 59, digits 48 .. 57.)", Promise02Test::codes);
        row.says("the place (from 0 on) of the first code with which no TEXT goes on", Promise02Test::firstOfFaults);
        row.says("how many codes there are, if it just ends too soon", Promise02Test::endsTooSoon);
        row.says("-100 less the FIRST FAULT", Promise02Test::firstFaultChangesNothing);
        row.says("A TEXT that is taken makes all anew", Promise02Test::makesAllAnew);
        row.says("THE LOG is empty, HISTORIC is NUMBER of each CELL, no READINGS", Promise02Test::fullOnesAreEmpty);
        row.says("how many CELLS", Promise02Test::rowIsNoSheet);
        row.says("n cells of a SHEET from i on", Promise02Test::placeInSheet);
        row.says("taken as a row of a LANE", Promise02Test::codesBeyondBytes);
        row.says("UNKNOWN (there is no such CELL, SPAN, HELPER, SHEET, place of a row)", Promise02Test::unknown);
        row.says("OUTSIDE: lane", Promise02Test::outside);
        row.says("FAULTS CAST (nothing is no CAST), NULL", Promise02Test::castAndNull);
        row.says("SIZE: n is below 0", Promise02Test::size);
        row.says("INDEX: not all cells are there", Promise02Test::index);
        row.says("where i is not 0 .. how many there are, if none of them is taken, too", Promise02Test::noneTaken);
        row.says("Of a call the first that is come to, in the order told", Promise02Test::order);
        row.end();
    }

    private static int take(String text) {
        return Due.take(new CappedRow(), text);
    }

    private static Supplier<CappedRow> busyWith(int sheet, int lane, int... cells) {
        return () -> {
            CappedRow x = Made.busy();
            Due.write(x, sheet, lane, cells);
            return x;
        };
    }

    private static void cells() {
        Due.is("no cell", take("r"), -101);
        Due.is("no cell, a helper", take("r;p1"), -101);
        for (int cells = 1; cells <= 16; cells++) {
            CappedRow x = new CappedRow();
            Due.is(cells + " cells", Due.take(x, Made.textOfCells(cells)), cells);
            for (int k = 0; k < cells; k++) {
                Due.is("number " + k, x.at(k, 0), (k + 1) % 10);
            }
            Due.is("no cell behind them", x.at(cells, 0), Due.LOST);
        }
        Due.areNumbers("least and greatest", Due.of("r09"), 0, 9);
    }

    private static void seventeenthCell() {
        Due.is("16", take(Made.textOfCells(16)), 16);
        Due.is("17", take(Made.textOfCells(17)), -117);
        Due.is("18", take(Made.textOfCells(18)), -117);
        Due.is("17 and a helper", take(Made.textOfCells(17) + ";p1"), -117);
        Due.is("16 and a helper", take(Made.textOfCells(16) + ";p1"), 16);
    }

    private static void helpers() {
        String[] texts = {"r52", "r52;d9", "r52;d9;p0", "r52;d9;p0;b5", "r1234567890123456;d9;p0;b5"};
        int[] due = {0, 1, 2, 3, 3};
        int[][] kindAndPace = {{2, 9}, {0, 0}, {1, 5}};
        for (int t = 0; t < texts.length; t++) {
            CappedRow x = Due.of(texts[t]);
            Due.is(texts[t], x.many(1), due[t]);
            for (int h = 0; h < due[t]; h++) {
                Due.is(texts[t] + ", kind " + h, x.ofHelper(h, 0), kindAndPace[h][0]);
                Due.is(texts[t] + ", pace " + h, x.ofHelper(h, 1), kindAndPace[h][1]);
            }
            Due.is(texts[t] + ", no more", x.ofHelper(due[t], 0), Due.UNKNOWN);
        }
    }

    private static void fourthHelper() {
        Due.is("three", take("r5;p1;b2;d3"), 1);
        Due.is("its ;", take("r5;p1;b2;d3;"), -111);
        Due.is("all of it", take("r5;p1;b2;d3;p4"), -111);
        Due.is("behind 16 cells", take("r1234567890123456;p1;b2;d3;p4"), -126);
        Due.is("the ; of the third alone is too soon", take("r5;p1;b2;"), -109);
    }

    /** Every code of a byte at every place of a TEXT that ends with it. */
    private static void codes() {
        String ahead = "r5;p1";
        String[] goesOn = {"r", "0123456789", "0123456789;", "pbd", "0123456789", ";"};
        // What is a TEXT there: a digit of a CELL, of a PACE.
        boolean[] mayEnd = {false, true, true, false, true, false};
        for (int place = 0; place < goesOn.length; place++) {
            for (int code = -128; code <= 127; code++) {
                int[] text = Due.codes(ahead.substring(0, place) + "?");
                text[place] = code;
                CappedRow x = new CappedRow();
                Due.write(x, 0, 0, text);
                boolean taken = code >= 0 && goesOn[place].indexOf(code) >= 0;
                int cells = place == 2 ? 2 : 1;
                int due = !taken ? -100 - place : mayEnd[place] && code != ';' ? cells : -100 - place - 1;
                Due.is("code " + code + " at " + place, x.row(0, 0, 0, place + 1), due);
            }
        }
    }

    private static void firstOfFaults() {
        Due.is("the first code", take("xyz"), -100);
        Due.is("the first of two", take("r1x;y"), -102);
        Due.is("a letter and a pace", take("r1;x;"), -103);
        Due.is("a pace and what is behind", take("r1;px;"), -104);
        Due.is("the last code", take("r1;p1;b2;d3x"), -111);
        Due.is("the last code of 26", take("r1234567890123456;p1;b2;d?"), -125);
        Due.is("ahead of too soon", take("r1;x"), -103);
        Due.is("ahead of a 17th cell", take("x" + Made.textOfCells(17)), -100);
        Due.is("ahead of a fourth helper", take("r1;p1;b2;dx;p4"), -110);
    }

    private static void endsTooSoon() {
        String whole = "r52;p3;b1;d2";
        boolean[] isText = {false, false, true, true, false, false, true, false, false, true, false, false, true};
        CappedRow x = new CappedRow();
        Due.write(x, 0, 0, Due.codes(whole));
        for (int n = 0; n <= whole.length(); n++) {
            int due = isText[n] ? n == 2 ? 1 : 2 : -100 - n;
            Due.isWithout(whole.substring(0, n), x, x.row(0, 0, 0, n), due);
        }
        Due.is("none of an empty sheet", take(""), -100);
    }

    private static void firstFaultChangesNothing() {
        String[] texts = {"", "x", "r", "r1x", "r12345678901234567", "r99;p1;", "r99;p1;b2;d3;p4"};
        int[] places = {0, 0, 1, 2, 17, 7, 12};
        for (int t = 0; t < texts.length; t++) {
            int[] cells = Due.codes(texts[t]);
            int due = -100 - places[t];
            Twins.refuses("'" + texts[t] + "'", busyWith(3, 1, cells), x -> x.row(3, 1, 0, cells.length), due);
            CappedRow none = new CappedRow();
            Due.take(none, texts[t]);
            Due.is("'" + texts[t] + "' makes no row", none.many(0), 0);
            Due.is("'" + texts[t] + "' makes no row", none.fresh(), Due.STATE);
        }
    }

    private static void makesAllAnew() {
        CappedRow x = Made.busy();
        int trace = x.trace();
        Due.is("fewer cells", Due.take(x, "r31"), 2);
        Due.areNumbers("fewer cells", x, 3, 1);
        Due.areHistoric("fewer cells", x, 3, 1);
        Due.is("no cell 2", x.at(2, 0), Due.LOST);
        Due.is("fewer spans", x.many(3), 3);
        Due.is("no span 4", x.ofSpan(4, 0), Due.LOST);
        Due.is("no helpers", x.many(1), 0);
        Due.is("no helper 0", x.ofHelper(0, 0), Due.UNKNOWN);
        Due.is("more cells", Due.take(x, Made.textOfCells(16) + ";p1;p2;p3"), 16);
        Due.is("more cells", x.at(15, 0), 6);
        Due.is("more spans", x.many(3), 31);
        Due.is("more helpers", x.many(1), 3);
        Due.is("trace is none of it", x.trace(), trace);
        Due.is("a sheet is none of it", x.cell(1, 2, 1), 300);
    }

    private static void fullOnesAreEmpty() {
        CappedRow x = Made.withFullLog();
        for (int r = x.many(4); r < Made.MOST_READINGS; r++) {
            x.reading(0, -5);
        }
        Due.is("the same text again", Due.take(x, "r52709;p3;b1;d2"), 5);
        Due.is("no acts", x.many(2), 0);
        Due.is("no acts of a helper", x.ofHelper(1, 3), 0);
        Due.is("no readings", x.many(4), 0);
        Due.is("none to take back", x.back(1), Due.OUTSIDE);
        Due.is("none that is not so", x.kinds(0), 7);
        Due.areNumbers("then", x, 5, 2, 7, 0, 9);
        Due.areHistoric("then", x, 5, 2, 7, 0, 9);
        Due.is("the first act", x.add(0, 0, 1), 1);
        Due.is("the first reading", x.reading(0, 6), 0);
        Due.is("by numbers as at this text", x.kinds(0), 7);
    }

    private static void rowIsNoSheet() {
        CappedRow x = Due.of("r52;p3");
        x.put(0, 1, '9');
        x.lose(0);
        Due.areNumbers("of a sheet that is lost", x, 5, 2);
        Due.is("of a sheet that is lost", x.ofHelper(0, 1), 3);
    }

    private static void placeInSheet() {
        int[] cells = new int[60];
        int[] text = Due.codes("r52;p3");
        System.arraycopy(text, 0, cells, 0, 6);
        System.arraycopy(text, 0, cells, 54, 6);
        CappedRow x = new CappedRow();
        Due.write(x, 2, 2, cells);
        Due.isWithout("at its begin", x, x.row(2, 2, 0, 6), 2);
        Due.isWithout("at its end", x, x.row(2, 2, 54, 6), 2);
        Due.isWithout("one behind its begin", x, x.row(2, 2, 1, 5), -100);
        Due.isWithout("one more than the text", x, x.row(2, 2, 0, 7), -106);
        Due.isWithout("one less than the text", x, x.row(2, 2, 54, 5), -105);
        Due.isWithout("a part that is a text", x, x.row(2, 2, 54, 2), 1);
        Due.isWithout("all of it", x, x.row(2, 2, 0, 60), -106);
    }

    private static void codesBeyondBytes() {
        int[][] shorts = {{114 + 256, 53}, {114 - 256, 53}, {-114, 53}};
        for (int[] cells : shorts) {
            Twins.refuses("short " + cells[0], busyWith(3, 1, cells), x -> x.row(3, 1, 0, 2), -100);
        }
        int[][] ints = {{114, 53 + 65536}, {114, 53 + 256}, {114, 53 - 65536}, {114, -53}};
        for (int[] cells : ints) {
            Twins.refuses("int " + cells[1], busyWith(3, 2, cells), x -> x.row(3, 2, 0, 2), -101);
        }
        for (int lane = 0; lane <= 2; lane++) {
            CappedRow x = busyWith(3, lane, 114, 53).get();
            Due.isWithout("lane " + lane, x, x.row(3, lane, 0, 2), 1);
        }
        CappedRow cut = busyWith(3, 0, 114 + 256, 53 - 512).get();
        Due.isWithout("bytes are cut when they are put", cut, cut.row(3, 0, 0, 2), 1);
    }

    private static void unknown() {
        int[] none = {-1, 4, Edge.LEAST, Edge.MOST};
        for (int sheet : none) {
            Twins.refuses("sheet " + sheet, Made::busy, x -> x.row(sheet, 0, 0, 15), Due.UNKNOWN);
            Twins.refuses("sheet " + sheet, Made::withoutRow, x -> x.row(sheet, 0, 0, 15), Due.UNKNOWN);
        }
        for (int sheet = 0; sheet <= 3; sheet++) {
            CappedRow x = busyWith(sheet, 1, 114, 53).get();
            Due.isWithout("sheet " + sheet, x, x.row(sheet, 1, 0, 2), 1);
        }
    }

    private static void outside() {
        int[] none = {-1, 3, Edge.LEAST, Edge.MOST};
        for (int lane : none) {
            Twins.refuses("lane " + lane, Made::busy, x -> x.row(0, lane, 0, 15), Due.OUTSIDE);
        }
    }

    private static void castAndNull() {
        Twins.fails("bytes as shorts", Made::busy, x -> x.row(0, 1, 0, 15), Due.CAST);
        Twins.fails("bytes as ints", Made::busy, x -> x.row(0, 2, 0, 15), Due.CAST);
        Twins.fails("shorts as bytes", Made::busy, x -> x.row(1, 0, 0, 4), Due.CAST);
        Twins.fails("shorts as ints", Made::busy, x -> x.row(1, 2, 0, 4), Due.CAST);
        Twins.fails("ints as bytes", Made::busy, x -> x.row(2, 0, 0, 8), Due.CAST);
        Twins.fails("ints as shorts", Made::busy, x -> x.row(2, 1, 0, 8), Due.CAST);
        Twins.fails("an empty row, too", busyWith(3, 1), x -> x.row(3, 0, 0, 0), Due.CAST);
        for (int l = 0; l <= 2; l++) {
            int lane = l;
            Twins.fails("nothing as lane " + lane, Made::busy, x -> x.row(3, lane, 0, 0), Due.NULL);
        }
    }

    private static void size() {
        Twins.fails("n -1", Made::busy, x -> x.row(0, 0, 0, -1), Due.SIZE);
        Twins.fails("n least", Made::busy, x -> x.row(0, 0, 0, Edge.LEAST), Due.SIZE);
        Twins.fails("n -1, at its end", Made::busy, x -> x.row(0, 0, 15, -1), Due.SIZE);
        Twins.refuses("n 0 is no fault", Made::busy, x -> x.row(0, 0, 0, 0), -100);
    }

    private static void index() {
        int[][] beyond = {
            {0, 16}, {1, 15}, {14, 2}, {15, 1}, {16, 1}, {-1, 1}, {-1, 15}, {-1, 16}, {0, Edge.MOST}, {1, Edge.MOST},
            {15, Edge.MOST}, {Edge.MOST, 1}, {Edge.MOST, Edge.MOST}, {Edge.LEAST, 1}, {Edge.LEAST, Edge.MOST}};
        for (int[] b : beyond) {
            Twins.fails("i " + b[0] + ", n " + b[1], Made::busy, x -> x.row(0, 0, b[0], b[1]), Due.INDEX);
        }
        CappedRow x = Made.busy();
        Due.isWithout("all", x, x.row(0, 0, 0, 15), 5);
        Due.isWithout("all but the first", x, x.row(0, 0, 1, 14), -100);
        Due.isWithout("the last", x, x.row(0, 0, 14, 1), -100);
        Twins.fails("one of an empty sheet", busyWith(3, 2), y -> y.row(3, 2, 0, 1), Due.INDEX);
        Twins.fails("61 of 60", busyWith(3, 2, new int[60]), y -> y.row(3, 2, 0, 61), Due.INDEX);
    }

    private static void noneTaken() {
        int[] beyond = {-1, 16, Edge.LEAST, Edge.MOST};
        for (int i : beyond) {
            Twins.fails("i " + i, Made::busy, x -> x.row(0, 0, i, 0), Due.INDEX);
        }
        Twins.refuses("i 0", Made::busy, x -> x.row(0, 0, 0, 0), -100);
        Twins.refuses("i 14", Made::busy, x -> x.row(0, 0, 14, 0), -100);
        Twins.refuses("i 15, how many there are", Made::busy, x -> x.row(0, 0, 15, 0), -100);
        Twins.refuses("i 0 of an empty sheet", busyWith(3, 2), x -> x.row(3, 2, 0, 0), -100);
        Twins.fails("i 1 of an empty sheet", busyWith(3, 2), x -> x.row(3, 2, 1, 0), Due.INDEX);
        Twins.fails("i -1 of an empty sheet", busyWith(3, 2), x -> x.row(3, 2, -1, 0), Due.INDEX);
    }

    /** Each call is wrong in all that comes behind, too. */
    private static void order() {
        Twins.refuses("unknown", Made::busy, x -> x.row(4, 3, -1, -1), Due.UNKNOWN);
        Twins.refuses("outside, where it would be a cast", Made::busy, x -> x.row(0, 3, -1, -1), Due.OUTSIDE);
        Twins.refuses("outside, where there is nothing", Made::busy, x -> x.row(3, 3, -1, -1), Due.OUTSIDE);
        Twins.fails("cast", Made::busy, x -> x.row(0, 1, -1, -1), Due.CAST);
        Twins.fails("null", Made::busy, x -> x.row(3, 1, -1, -1), Due.NULL);
        Twins.fails("size", Made::busy, x -> x.row(0, 0, -1, -1), Due.SIZE);
        Twins.fails("size", Made::busy, x -> x.row(0, 0, 16, -1), Due.SIZE);
        Twins.fails("index, ahead of a first fault", Made::busy, x -> x.row(1, 1, 0, 5), Due.INDEX);
        Twins.refuses("the first fault", Made::busy, x -> x.row(1, 1, 0, 4), -100);
    }
}
