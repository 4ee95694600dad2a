/** Of the terms: ROWS of objects above 99, what COUNTS for an object, and what is WRONG. */
public final class CountsTest {
    public static void main(String[] args) {
        Check.sentence("ROWS of objects above 99 tell nothing: of a table", CountsTest::aboveTheLastInTable);
        Check.sentence("ROWS of objects above 99 tell nothing: far above, of a table", CountsTest::farAbove);
        Check.sentence("ROWS of objects above 99 tell nothing: of a stream", CountsTest::aboveTheLastInStream);
        Check.sentence("What COUNTS is the first ROW in THE CHAIN that tells of it", CountsTest::firstInChain);
        Check.sentence("(in a SECTION the first one): of a table", CountsTest::firstInTable);
        Check.sentence("(in a SECTION the first one): of a stream", CountsTest::firstInStream);
        Check.sentence("A USED one is WRONG if no HEAD stands at its place", CountsTest::noHead);
        Check.sentence("or one with another object", CountsTest::anotherObject);
        Check.sentence("or one with another GENERATION", CountsTest::anotherGeneration);
        Check.sentence("a place or GENERATION that differs by 2 to the 32 is another", CountsTest::wrapAround);
        Check.sentence("a USED one with its HEAD is not WRONG", CountsTest::itsHead);
        Check.sentence("a FREE one and one WITHIN are never WRONG", CountsTest::neverWrong);
        Check.sentence("only the ROW that COUNTS is WRONG", CountsTest::onlyWhatCounts);
        Check.end();
    }

    private static void aboveTheLastInTable() {
        CrossTables x = Maker.readTable("98 4\n" + Maker.row(1, 1, 'f') + Maker.row(2, 2, 'f') + Maker.row(3, 3, 'f')
                + Maker.row(4, 4, 'n') + "0 1\n" + Maker.row(6, 6, 'f') + "100 1\n" + Maker.row(7, 7, 'n'));
        Check.answers("three count", 3, () -> x.read(10));
        Maker.counts("98", x, 98, 1, 1, 1);
        Maker.counts("99", x, 99, 1, 2, 2);
        Maker.counts("0", x, 0, 1, 6, 6);
        Maker.nothingCounts("1", x, 1);
        Maker.told("none is wrong", x);
    }

    private static void farAbove() {
        for (long object : new long[] {256, 65536, 2147483647L, 2147483648L, 4294967295L, 4294967296L, 9999999999L}) {
            CrossTables x = Maker.readTable(object + " 3\n" + Maker.row(1, 1, 'f') + Maker.row(2, 2, 'n') + Maker.row(3, 3, 'f'));
            Check.answers("from " + object + " on", 0, () -> x.read(10));
            Maker.told("from " + object + " on", x);
        }
    }

    private static void aboveTheLastInStream() {
        CrossTables x = new CrossTables();
        Maker.stream(x, 10, -1, 1, 2, 3, 4, 5);
        x.widths(0, 0, 1, 0);
        x.run(0, 98, 3);
        x.run(0, 999, 1);
        x.run(0, 0, 1);
        Check.answers("three count", 3, () -> x.read(10));
        Maker.counts("98", x, 98, 4, 1, 0);
        Maker.counts("99", x, 99, 4, 2, 0);
        Maker.counts("0", x, 0, 4, 5, 0);
        Maker.told("the others are not wrong", x, 7, 0, 5, 7, 98, 1, 7, 99, 2);
    }

    private static void firstInChain() {
        CrossTables x = new CrossTables();
        Maker.table(x, 10, -1, "1 3\n" + Maker.row(0, 1, 'f') + Maker.row(0, 2, 'f') + Maker.row(0, 3, 'f'));
        Maker.stream(x, 20, -1, 0, 0, 0, 22, 0, 0, 0, 23);
        x.run(1, 2, 2);
        Maker.table(x, 30, 10, "3 1\n" + Maker.row(0, 33, 'f'));
        x.beside(2, 20);
        Check.answers("three count", 3, () -> x.read(30));
        Maker.counts("only in the oldest", x, 1, 1, 0, 1);
        Maker.counts("beside the newest", x, 2, 1, 0, 22);
        Maker.counts("in the newest", x, 3, 1, 0, 33);
        x.read(10);
        Maker.counts("from the oldest on", x, 3, 1, 0, 3);
    }

    private static void firstInTable() {
        CrossTables x = Maker.readTable("7 1\n" + Maker.row(1, 1, 'f') + "6 2\n" + Maker.row(2, 2, 'f') + Maker.row(3, 3, 'n'));
        Maker.counts("the first of two", x, 7, 1, 1, 1);
        Maker.counts("the only one", x, 6, 1, 2, 2);
        Maker.told("the second is not looked at", x);
    }

    private static void firstInStream() {
        CrossTables x = new CrossTables();
        Maker.stream(x, 10, -1, 0, 1, 2, 2, 0, 3);
        x.widths(0, 1, 1, 0);
        x.run(0, 7, 1);
        x.run(0, 6, 2);
        x.read(10);
        Maker.counts("the first of two", x, 7, 1, 1, 0);
        Maker.counts("the only one", x, 6, 3, 2, 0);
    }

    private static void seven(String what, long place, long generation, int kind, CrossTables x) {
        Maker.table(x, 10, -1, "7 1\n" + place + " " + generation + " n");
        Check.answers(what + ": one counts", 1, () -> x.read(10));
        Maker.counts(what, x, 7, kind, place, generation);
        boolean wrong = kind == 4;
        Maker.told(what, x, wrong ? new long[] {3, 0, 4, 7, 7, place} : new long[] {3, 0, 4});
    }

    private static CrossTables headed(long place, int object, int generation) {
        CrossTables x = new CrossTables();
        x.head(place, object, generation);
        return x;
    }

    private static void noHead() {
        seven("no head at all", 50, 2, 4, new CrossTables());
        seven("no head at 0", 0, 0, 4, new CrossTables());
        seven("one before", 50, 2, 4, headed(49, 7, 2));
        seven("one behind", 50, 2, 4, headed(51, 7, 2));
    }

    private static void anotherObject() {
        seven("one less", 50, 2, 4, headed(50, 6, 2));
        seven("one more", 50, 2, 4, headed(50, 8, 2));
        seven("0", 50, 2, 4, headed(50, 0, 2));
        CrossTables both = headed(50, 8, 2);
        both.head(51, 7, 2);
        seven("its own elsewhere", 50, 2, 4, both);
    }

    private static void anotherGeneration() {
        seven("one less", 50, 2, 4, headed(50, 7, 1));
        seven("one more", 50, 2, 4, headed(50, 7, 3));
        seven("0", 50, 2, 4, headed(50, 7, 0));
        seven("one above the greatest", 50, 100000, 4, headed(50, 7, 99999));
        seven("the greatest number", 50, Maker.LAST, 4, headed(50, 7, 99999));
    }

    private static void wrapAround() {
        seven("a place", 50 + (1L << 32), 2, 4, headed(50, 7, 2));
        seven("a head's place", 50, 2, 4, headed(50 + (1L << 32), 7, 2));
        seven("a generation", 50, 2 + (1L << 32), 4, headed(50, 7, 2));
        seven("a generation of 2^16", 50, 2 + (1L << 16), 4, headed(50, 7, 2));
    }

    private static void itsHead() {
        seven("some place", 50, 2, 2, headed(50, 7, 2));
        seven("place 0", 0, 0, 2, headed(0, 7, 0));
        seven("the last place", Maker.LAST, 99999, 2, headed(Maker.LAST, 7, 99999));
        CrossTables two = headed(50, 7, 2);
        two.head(60, 7, 3);
        seven("the first of two", 50, 2, 2, two);
    }

    private static void neverWrong() {
        CrossTables x = new CrossTables();
        Maker.stream(x, 10, -1, 0, 0, 5, 0, 2, 0, 5, 0);
        x.run(0, 7, 2);
        x.head(5, 1, 1);
        x.read(10);
        Maker.counts("free", x, 7, 1, 5, 0);
        Maker.counts("within", x, 8, 3, 5, 0);
        Maker.told("none is wrong", x);
    }

    private static void onlyWhatCounts() {
        CrossTables x = new CrossTables();
        Maker.table(x, 10, -1, "7 1\n" + Maker.row(60, 0, 'n'));
        Maker.table(x, 20, 10, "7 1\n" + Maker.row(50, 0, 'n'));
        x.head(50, 7, 0);
        x.read(20);
        Maker.counts("the newer one", x, 7, 2, 50, 0);
        Maker.told("the older one is not looked at", x);
        x.head(50, 8, 0);
        x.head(60, 7, 0);
        x.read(20);
        Maker.counts("the newer one", x, 7, 4, 50, 0);
        Maker.told("the older one does not help", x, 7, 7, 50);
    }
}
