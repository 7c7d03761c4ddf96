/** Promise 26, cheer: the edges that the document names. */
public final class Promise26Test {
    public static void main(String[] args) {
        Promise cheer = new Promise(26);
        cheer.says("CHEERED by a lent body (4): its number", Promise26Test::lentBody);
        cheer.says("DOUBLE ones have their own (5): 60", Promise26Test::ownBody);
        cheer.says("UNKNOWN.", Promise26Test::unknown);
        cheer.end();
    }

    private static void lentBody() {
        String[] texts = {"r1;p9;p9;p9", "r1;b9;b9;b9"};
        for (String text : texts) {
            for (int h = 0; h <= 2; h++) {
                CappedRow x = Due.of(text);
                Due.is(text + ", " + h, x.cheer(h), h);
                Due.is(text + ", " + h + ", trace", x.trace(), 4);
            }
        }
    }

    private static void ownBody() {
        for (int h = 0; h <= 2; h++) {
            CappedRow x = Due.of("r1;d0;d1;d9");
            Due.is("double " + h, x.cheer(h), 60);
            Due.is("double " + h + ", trace", x.trace(), 5);
        }
        CappedRow x = Due.of("r1;p1;d1;b1");
        Due.is("plain", x.cheer(0), 0);
        Due.is("double", x.cheer(1), 60);
        Due.is("broad", x.cheer(2), 2);
        Due.is("trace", x.trace(), (4 * 31 + 5) * 31 + 4);
    }

    private static void unknown() {
        Edge.ofHelper(CappedRow::cheer);
    }
}
