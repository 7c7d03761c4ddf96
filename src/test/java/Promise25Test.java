/** Promise 25, tell: the edges that the document names. */
public final class Promise25Test {
    public static void main(String[] args) {
        Promise tell = new Promise(25);
        tell.says("PLAIN (1): PACE. BROAD (2): what PLAIN's gives, and 100.", Promise25Test::paces);
        tell.says("DOUBLE (3): what BROAD's gives, and what PLAIN's gives (BROAD's left out)", Promise25Test::traces);
        tell.says("UNKNOWN.", Promise25Test::unknown);
        tell.says("TELLING of a HELPER.", Promise25Test::traceAlone);
        tell.end();
    }

    private static void paces() {
        for (int pace = 0; pace <= 9; pace++) {
            CappedRow x = Due.of("r1;p" + pace + ";b" + pace + ";d" + pace);
            Due.is("plain " + pace, x.tell(0), pace);
            Due.is("broad " + pace, x.tell(1), pace + 100);
            Due.is("double " + pace, x.tell(2), 2 * pace + 100);
        }
    }

    private static void traces() {
        String[] helpers = {"p7", "b7", "d7"};
        int[] due = {1, 2 * 31 + 1, ((3 * 31 + 2) * 31 + 1) * 31 + 1};
        for (int kind = 0; kind <= 2; kind++) {
            CappedRow x = Due.of("r1;" + helpers[kind]);
            x.tell(0);
            Due.is("trace of " + helpers[kind], x.trace(), due[kind]);
        }
    }

    private static void unknown() {
        Edge.ofHelper(CappedRow::tell);
    }

    private static void traceAlone() {
        CappedRow x = Made.busy();
        x.put(3, 0, 0);
        Due.is("double 2", x.tell(2), 104);
        Due.is("it names no faults", x.fault(), 1);
        Due.areNumbers("numbers stay", x, 9, 12, 6, 7, 8);
        Due.is("the log stays", x.many(2), 5);
        Due.is("acts of its own stay", x.ofHelper(2, 3), 1);
        Due.is("told again", x.tell(2), 104);
    }
}
