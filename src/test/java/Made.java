/** Objects for the tests, each made by the same calls whenever it is asked for. */
final class Made {
    static final int MOST_ACTS = 24, MOST_READINGS = 8;

    private Made() {
    }

    /** No ROW; SHEETS 0 bytes (a TEXT that is not taken), 1 shorts, 2 ints (a DAY), 3 nothing. */
    static CappedRow withoutRow() {
        CappedRow x = new CappedRow();
        writeSheets(x);
        return x;
    }

    /**
     * SHEETS as of withoutRow(); NUMBERS 9 12 6 7 8, HISTORIC 9 12 13 7 9; five ACTS, two READINGS that are
     * so; HELPERS PLAIN 3, BROAD 1, DOUBLE 2; something in TRACE.
     */
    static CappedRow busy() {
        CappedRow x = withoutRow();
        x.row(0, 0, 0, 15);
        x.add(1, 3, 6);
        x.cap(0, 4, 8);
        x.help(1, 2, 2, 0);
        x.help(2, 0, 1, 1);
        x.floor(3, 3, 7);
        x.reading(0, 9);
        x.reading(2, 6);
        x.tell(2);
        x.cheer(0);
        return x;
    }

    /** As busy(), with as many ACTS as THE LOG takes; the last ones change no NUMBER. */
    static CappedRow withFullLog() {
        CappedRow x = busy();
        for (int a = x.many(2); a < MOST_ACTS; a++) {
            x.add(0, 4, 0);
        }
        return x;
    }

    /** As busy(), with as many READINGS as there can be; all are so. */
    static CappedRow withAllReadings() {
        CappedRow x = busy();
        for (int r = x.many(4); r < MOST_READINGS; r++) {
            x.reading(4, 8);
        }
        return x;
    }

    /** A ROW of so many CELLS, their NUMBERS 1, 2, .. 9, 0, 1, .. */
    static CappedRow ofCells(int cells) {
        return Due.of(textOfCells(cells));
    }

    static String textOfCells(int cells) {
        return "r" + "1234567890".repeat(10).substring(0, cells);
    }

    private static void writeSheets(CappedRow x) {
        Due.write(x, 0, 0, Due.codes("r52709;p3;b1;d2"));
        Due.write(x, 1, 1, 7, -8, 300, 0);
        Due.write(x, 2, 2, 0, 0, 4, 2, 3, 1, 2, 2);
    }
}
