/** Promise 9: head. */
public final class HeadTest {
    public static void main(String[] args) {
        wrongInputs();
        sixty();
        replaced();
        Check.end();
    }

    private static void refusesHead(CrossTables x, long place, int object, int generation) {
        Check.refuses("head(" + place + ", " + object + ", " + generation + ")",
                IllegalArgumentException.class, () -> x.head(place, object, generation));
    }

    private static void wrongInputs() {
        CrossTables x = new CrossTables();
        refusesAll(x);
        Check.answers("first place", 1, () -> x.head(0, 0, 0));
        Check.answers("last place", 2, () -> x.head(Maker.LAST, 99, 99999));
    }

    private static void refusesAll(CrossTables x) {
        refusesHead(x, -1, 0, 0);
        refusesHead(x, Maker.LAST + 1, 0, 0);
        refusesHead(x, Long.MIN_VALUE, 0, 0);
        refusesHead(x, 0, -1, 0);
        refusesHead(x, 0, 100, 0);
        refusesHead(x, 0, Integer.MIN_VALUE, 0);
        refusesHead(x, 0, 0, -1);
        refusesHead(x, 0, 0, 100000);
        refusesHead(x, 0, 0, Integer.MIN_VALUE);
    }

    private static void sixty() {
        CrossTables x = new CrossTables();
        for (int i = 0; i < 60; i++) {
            int place = i * 3;
            Check.answers("head " + i, i + 1, () -> x.head(place, 1, 1));
        }
        Check.refuses("one more", UnsupportedOperationException.class, () -> x.head(1, 1, 1));
        refusesAll(x);
        Check.answers("in place of the first", 60, () -> x.head(0, 2, 2));
        Check.answers("in place of the last", 60, () -> x.head(177, 3, 3));
        Check.refuses("still one more", UnsupportedOperationException.class, () -> x.head(180, 1, 1));
        Maker.table(x, 9, -1, "1 3\n" + Maker.row(174, 1, 'n') + Maker.row(0, 2, 'n') + Maker.row(177, 3, 'n'));
        x.read(9);
        Maker.counts("sixty", x, 1, 2, 174, 1);
        Maker.counts("sixty", x, 2, 2, 0, 2);
        Maker.counts("sixty", x, 3, 2, 177, 3);
    }

    private static void replaced() {
        CrossTables x = new CrossTables();
        Maker.table(x, 9, -1, "1 1\n" + Maker.row(50, 2, 'n'));
        Check.answers("first", 1, () -> x.head(50, 1, 2));
        x.read(9);
        Maker.counts("first", x, 1, 2, 50, 2);
        Check.answers("in its place", 1, () -> x.head(50, 1, 3));
        x.read(9);
        Maker.counts("in its place", x, 1, 4, 50, 2);
    }
}
