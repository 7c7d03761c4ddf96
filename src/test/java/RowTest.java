/** Promises 1 to 4: a new object, row, ofHelper, at. */
public final class RowTest {
    public static void main(String[] args) {
        promise1NewObject();
        promise2Texts();
        promise2FirstFaults();
        promise2Places();
        promise2Lanes();
        promise2RefusalsAndFaults();
        promise2MakesAllAnew();
        promise2LeavesAllWhenRefused();
        promise3OfHelper();
        promise4At();
        Due.end("RowTest");
    }

    private static void promise1NewObject() {
        CappedRow x = new CappedRow();
        for (int what = 0; what <= 4; what++) {
            Due.is("1 many(" + what + ")", x.many(what), 0);
        }
        Due.is("1 at", x.at(0, 0), Due.LOST);
        Due.is("1 ofHelper", x.ofHelper(0, 0), Due.UNKNOWN);
        Due.is("1 ofSpan", x.ofSpan(1, 0), Due.LOST);
        Due.is("1 fresh", x.fresh(), Due.STATE);
        Due.is("1 trace", x.trace(), 0);
        Due.is("1 fault", x.fault(), 0);
        for (int k = 0; k < 4; k++) {
            Due.is("1 lose(" + k + ")", x.lose(k), 0);
        }
    }

    private static void promise2Texts() {
        Due.is("2 shortest", Due.take(new CappedRow(), "r0"), 1);
        Due.is("2 longest", Due.take(new CappedRow(), "r1234567890123456;p0;b9;d5"), 16);
        CappedRow x = Due.of("r907;d4;p0;b9");
        Due.areNumbers("2", x, 9, 0, 7);
        Due.areHistoric("2", x, 9, 0, 7);
        Due.is("2 helpers", x.many(1), 3);
        Due.is("2 kind 0", x.ofHelper(0, 0), 2);
        Due.is("2 kind 1", x.ofHelper(1, 0), 0);
        Due.is("2 kind 2", x.ofHelper(2, 0), 1);
        Due.is("2 pace 0", x.ofHelper(0, 1), 4);
        Due.is("2 pace 1", x.ofHelper(1, 1), 0);
        Due.is("2 pace 2", x.ofHelper(2, 1), 9);
    }

    private static void promise2FirstFaults() {
        faultAt("", 0);
        faultAt("x", 0);
        faultAt("R1", 0);
        faultAt("1", 0);
        faultAt(";p1", 0);
        faultAt("r", 1);
        faultAt("rr1", 1);
        faultAt("r;p1", 1);
        faultAt("r/", 1);
        faultAt("r:", 1);
        faultAt("r12x", 3);
        faultAt("r12r", 3);
        faultAt("r12p3", 3);
        faultAt("r12;", 4);
        faultAt("r12;;", 4);
        faultAt("r12;c3", 4);
        faultAt("r12;4", 4);
        faultAt("r12;p", 5);
        faultAt("r12;pp", 5);
        faultAt("r12;p/", 5);
        faultAt("r12;p:", 5);
        faultAt("r12;p34", 6);
        faultAt("r12;p3b4", 6);
        faultAt("r12;p3;", 7);
        faultAt("r12;p3;b", 8);
        faultAt("r12;p3;b4;d5;", 12);
        faultAt("r12;p3;b4;d5;p6", 12);
        faultAt("r12;p3;b4;d55", 12);
        faultAt("r12345678901234567", 17);
        faultAt("r1234567890123456x", 17);
        faultAt("r1234567890123456;", 18);
    }

    private static void faultAt(String text, int place) {
        CappedRow x = new CappedRow();
        Due.isWithout("2 " + text, x, Due.take(x, text), -100 - place);
        Due.is("2 " + text + " makes no row", x.many(0), 0);
    }

    private static void promise2Places() {
        CappedRow x = new CappedRow();
        Due.write(x, 1, 2, Due.codes("xxr58;b2yy"));
        Due.isWithout("2 in the middle", x, x.row(1, 2, 2, 6), 2);
        Due.areNumbers("2 in the middle", x, 5, 8);
        Due.isWithout("2 part of it", x, x.row(1, 2, 2, 2), 1);
        Due.is("2 part of it has no helper", x.many(1), 0);
        Due.is("2 a fault is told from the text's own begin", x.row(1, 2, 2, 7), -106);
        Due.is("2 too soon is told from the text's own begin", x.row(1, 2, 2, 4), -104);
        Due.isWithout("2 nothing of it, at its end", x, x.row(1, 2, 10, 0), -100);
        Due.isWithout("2 nothing of it, at its begin", x, x.row(1, 2, 0, 0), -100);
    }

    private static void promise2Lanes() {
        for (int lane = 0; lane <= 2; lane++) {
            CappedRow x = new CappedRow();
            Due.write(x, 3, lane, Due.codes("r37;d1"));
            Due.isWithout("2 lane " + lane, x, x.row(3, lane, 0, 6), 2);
        }
        CappedRow cut = new CappedRow();
        Due.write(cut, 0, 0, 114 + 256, 53 - 512);
        Due.is("2 bytes are cut as they come", cut.row(0, 0, 0, 2), 1);
        Due.write(cut, 0, 1, 114 + 256, 53);
        Due.is("2 shorts are not cut to bytes", cut.row(0, 1, 0, 2), -100);
        Due.write(cut, 0, 2, 114, 53 + 65536);
        Due.is("2 ints are not cut to shorts", cut.row(0, 2, 0, 2), -101);
        Due.write(cut, 0, 0, 114, 53, -69);
        Due.is("2 bytes below 0 are no codes", cut.row(0, 0, 0, 3), -102);
    }

    private static void promise2RefusalsAndFaults() {
        CappedRow x = new CappedRow();
        Due.write(x, 0, 1, Due.codes("r12"));
        Due.isWithout("2 sheet -1", x, x.row(-1, 9, -1, -1), Due.UNKNOWN);
        Due.isWithout("2 sheet 4", x, x.row(4, 1, 0, 3), Due.UNKNOWN);
        Due.isWithout("2 lane 3", x, x.row(0, 3, -1, -1), Due.OUTSIDE);
        Due.isWithout("2 lane -1", x, x.row(1, -1, -1, -1), Due.OUTSIDE);
        Due.isFault("2 cast", x, x.row(0, 0, -1, -1), Due.CAST);
        Due.isFault("2 cast", x, x.row(0, 2, 0, 3), Due.CAST);
        Due.isFault("2 nothing is no cast", x, x.row(1, 2, -1, -1), Due.NULL);
        Due.isFault("2 size", x, x.row(0, 1, -1, -1), Due.SIZE);
        Due.isFault("2 size", x, x.row(0, 1, 0, Integer.MIN_VALUE), Due.SIZE);
        Due.isFault("2 index, i -1", x, x.row(0, 1, -1, 1), Due.INDEX);
        Due.isFault("2 index, i beyond", x, x.row(0, 1, 4, 0), Due.INDEX);
        Due.isFault("2 index, i below, none taken", x, x.row(0, 1, -1, 0), Due.INDEX);
        Due.isFault("2 index, n beyond", x, x.row(0, 1, 0, 4), Due.INDEX);
        Due.isFault("2 index, n beyond from 1", x, x.row(0, 1, 1, 3), Due.INDEX);
        Due.isFault("2 index, wrap", x, x.row(0, 1, 3, Integer.MAX_VALUE), Due.INDEX);
        Due.isFault("2 index, wrap", x, x.row(0, 1, Integer.MAX_VALUE, 3), Due.INDEX);
        Due.isWithout("2 taken", x, x.row(0, 1, 0, 3), 2);
        Due.write(x, 2, 0);
        Due.isWithout("2 an empty sheet", x, x.row(2, 0, 0, 0), -100);
        Due.isFault("2 an empty sheet", x, x.row(2, 0, 0, 1), Due.INDEX);
    }

    private static void promise2MakesAllAnew() {
        CappedRow x = Due.of("r1234;d9;b8");
        x.tell(0);
        int trace = x.trace();
        x.help(0, 0, 3, 1);
        x.cap(0, 1, 3);
        x.reading(0, 3);
        Due.is("2 anew", Due.take(x, "r56;p2"), 2);
        Due.areNumbers("2 anew", x, 5, 6);
        Due.areHistoric("2 anew", x, 5, 6);
        Due.is("2 anew, helpers", x.many(1), 1);
        Due.is("2 anew, log", x.many(2), 0);
        Due.is("2 anew, spans", x.many(3), 3);
        Due.is("2 anew, readings", x.many(4), 0);
        Due.is("2 anew, acts of helper 0", x.ofHelper(0, 3), 0);
        Due.is("2 anew, kinds by the new numbers", x.kinds(0), 7);
        Due.is("2 anew, no cell 2", x.at(2, 0), Due.LOST);
        Due.is("2 anew, trace stays", x.trace(), trace);
        Due.is("2 anew, sheets stay", x.cell(0, 1, 0), '5');
        x.reading(1, 6);
        Due.is("2 anew, base", x.paces(0), 1023);
    }

    private static void promise2LeavesAllWhenRefused() {
        CappedRow x = Due.of("r1234;d9;b8");
        x.add(0, 3, 5);
        x.add(0, 3, -4);
        x.reading(0, 2);
        x.row(0, 1, 0, 2);
        x.row(0, 0, 0, 99);
        Due.is("2 first fault", Due.take(x, "r99999;p1;q"), -110);
        Due.areNumbers("2 left", x, 2, 3, 4, 5);
        Due.areHistoric("2 left", x, 6, 7, 8, 9);
        Due.is("2 left, helpers", x.many(1), 2);
        Due.is("2 left, kind", x.ofHelper(0, 0), 2);
        Due.is("2 left, pace", x.ofHelper(0, 1), 9);
        Due.is("2 left, log", x.many(2), 2);
        Due.is("2 left, spans", x.many(3), 7);
        Due.is("2 left, readings", x.many(4), 1);
        Due.is("2 left, kinds", x.kinds(0), 7);
    }

    private static void promise3OfHelper() {
        CappedRow x = Due.of("r123;p3;b0;d9");
        long[][] due = {{0, 3, 3, 2}, {1, 0, 1, 0}, {2, 9, 18, 1}};
        x.help(0, 0, 1, 1);
        x.help(2, 1, 2, 0);
        x.add(0, 0, 0);
        x.cap(0, 0, 2);
        x.help(0, 2, 2, 0);
        for (int h = 0; h < 3; h++) {
            for (int what = 0; what < 4; what++) {
                Due.is("3 ofHelper(" + h + ", " + what + ")", x.ofHelper(h, what), due[h][what]);
            }
            Due.is("3 what 4", x.ofHelper(h, 4), Due.OUTSIDE);
            Due.is("3 what -1", x.ofHelper(h, -1), Due.OUTSIDE);
        }
        Due.is("3 helper 3", x.ofHelper(3, 4), Due.UNKNOWN);
        Due.is("3 helper -1", x.ofHelper(-1, 0), Due.UNKNOWN);
        x.fresh();
        Due.is("3 fresh", x.ofHelper(0, 3), 0);
        Due.is("3 no helpers", Due.of("r1").ofHelper(0, 0), Due.UNKNOWN);
        CappedRow three = Due.of("r9;d0;b9");
        Due.is("3 double of 0", three.ofHelper(0, 2), 0);
        Due.is("3 broad of 9", three.ofHelper(1, 2), 10);
    }

    private static void promise4At() {
        CappedRow x = Due.of("r49");
        Due.is("4 number", x.at(1, 0), 9);
        Due.is("4 historic", x.at(1, 1), 9);
        x.add(0, 1, -20);
        Due.is("4 number then", x.at(1, 0), -11);
        Due.is("4 historic then", x.at(1, 1), 9);
        x.add(0, 0, 30);
        Due.is("4 number up", x.at(0, 0), 14);
        Due.is("4 historic up", x.at(0, 1), 14);
        Due.is("4 cell 2", x.at(2, 0), Due.LOST);
        Due.is("4 cell -1", x.at(-1, 0), Due.LOST);
        Due.is("4 what 2", x.at(0, 2), Due.LOST);
        Due.is("4 what -1", x.at(0, -1), Due.LOST);
        Due.is("4 far", x.at(Integer.MAX_VALUE, Integer.MIN_VALUE), Due.LOST);
    }
}
