/** What a STREAM's bytes tell: widths, runs, kinds, rows past. */
public final class StreamRowsTest {
    public static void main(String[] args) {
        kinds();
        wideNumbers();
        numbersWithoutBytes();
        runsInTheirOrder();
        sixRuns();
        rowsPast();
        objectsAboveTheLast();
        rowsThatTellNothing();
        Check.end();
    }

    private static void kinds() {
        CrossTables x = new CrossTables();
        int s = Maker.stream(x, 10, -1, 0, 1, 2, 3, 1, 0, 5, 6, 2, 0, 7, 200, 3, 0, 1, 0, 255, 0, 1, 0, 1, 0, 9, 0);
        x.run(s, 0, 6);
        x.head(5, 1, 6);
        Check.answers("four count", 4, () -> x.read(10));
        Maker.counts("free", x, 0, 1, 0x0102, 3);
        Maker.counts("used", x, 1, 2, 5, 6);
        Maker.counts("within", x, 2, 3, 7, 200);
        Maker.nothingCounts("3", x, 3);
        Maker.nothingCounts("255", x, 4);
        Maker.revisions("3", x, 3);
        Maker.counts("wrong", x, 5, 4, 9, 0);
        Maker.told("kinds", x, 7, 5, 9);
    }

    private static void wideNumbers() {
        CrossTables x = new CrossTables();
        int s = Maker.stream(x, 10, -1,
                0, 0, 0, 1, 255, 254, 253, 252, 128, 0, 0, 1,
                0, 0, 1, 0, 1, 1, 1, 1, 1, 1, 1, 1,
                1, 0, 0, 1, 1, 1, 1, 1, 1, 1, 1, 1,
                0, 0, 0, 0, 127, 255, 255, 255, 255, 255, 255, 255);
        x.widths(s, 4, 4, 4);
        x.run(s, 3, 4);
        Check.answers("two count", 2, () -> x.read(10));
        Maker.counts("the highest byte first", x, 3, 4, 0xFFFEFDFCL, 0x80000001L);
        Maker.nothingCounts("256", x, 4);
        Maker.nothingCounts("2^24 + 1", x, 5);
        Maker.counts("all bits", x, 6, 1, 0x7FFFFFFFL, 0xFFFFFFFFL);
    }

    private static void numbersWithoutBytes() {
        CrossTables x = new CrossTables();
        int s = Maker.stream(x, 10, -1, 7, 8, 0, 9);
        x.run(s, 3, 2);
        x.widths(s, 0, 1, 1);
        x.head(7, 3, 8);
        x.read(10);
        Maker.counts("the first is 1", x, 3, 2, 7, 8);
        Maker.counts("the first is 1", x, 4, 4, 0, 9);
        x.widths(s, 1, 0, 1);
        x.read(10);
        Maker.nothingCounts("a first of 7", x, 3);
        Maker.counts("the second is 0", x, 4, 1, 0, 9);
        x.widths(s, 0, 2, 0);
        x.read(10);
        Maker.counts("the third is 0", x, 3, 4, 0x0708, 0);
        x.widths(s, 0, 0, 0);
        x.run(s, 50, 100);
        x.head(0, 60, 0);
        Check.answers("no bytes at all", 52, () -> x.read(10));
        Maker.counts("no bytes at all", x, 60, 2, 0, 0);
        Maker.counts("no bytes at all", x, 99, 4, 0, 0);
        Check.answers("all but one are wrong", 51, () -> x.told(-1, 0));
    }

    private static void runsInTheirOrder() {
        CrossTables x = new CrossTables();
        int s = Maker.stream(x, 10, -1, 1, 2, 3, 4, 5, 6, 7);
        x.widths(s, 0, 1, 0);
        x.run(s, 20, 2);
        x.run(s, 5, 1);
        x.run(s, 20, 3);
        x.run(s, 99, 1);
        Check.answers("five count", 5, () -> x.read(10));
        Maker.counts("20", x, 20, 4, 1, 0);
        Maker.counts("21", x, 21, 4, 2, 0);
        Maker.counts("5", x, 5, 4, 3, 0);
        Maker.counts("22", x, 22, 4, 6, 0);
        Maker.counts("99", x, 99, 4, 7, 0);
        Maker.revisions("20", x, 20, 0);
        Maker.told("bytes that are no row's", x, 7, 5, 3, 7, 20, 1, 7, 21, 2, 7, 22, 6, 7, 99, 7);
        x.add(s, (byte) 9);
        x.read(10);
        Maker.told("one byte more is nothing", x, 7, 5, 3, 7, 20, 1, 7, 21, 2, 7, 22, 6, 7, 99, 7);
    }

    private static void sixRuns() {
        CrossTables x = new CrossTables();
        int s = Maker.stream(x, 10, -1, 1, 2, 3, 4, 5, 6);
        x.widths(s, 0, 1, 0);
        for (int i = 0; i < 6; i++) {
            x.run(s, 10 * i, 1);
        }
        Check.answers("six runs", 6, () -> x.read(10));
        Maker.counts("the sixth run", x, 50, 4, 6, 0);
    }

    private static void rowsPast() {
        CrossTables x = new CrossTables();
        int s = Maker.stream(x, 10, -1, 0, 0, 1, 1, 0, 0, 2, 2, 0, 0, 3);
        Check.answers("without runs", 0, () -> x.read(10));
        Maker.told("without runs", x);
        x.run(s, 1, 1);
        x.read(10);
        Maker.told("bytes that no run takes", x);
        x.run(s, 2, 5);
        x.run(s, 40, 5);
        Check.answers("a byte is not there", 2, () -> x.read(10));
        Maker.told("a byte is not there", x, 5, 0, 2);
        Maker.nothingCounts("half a row", x, 3);
        Maker.nothingCounts("the next run", x, 40);
        x.add(s, (byte) 3);
        x.read(10);
        Maker.told("the last byte", x, 5, 0, 3);
        Maker.counts("a whole row", x, 3, 1, 3, 3);

        CrossTables y = new CrossTables();
        int empty = Maker.stream(y, 10, -1);
        y.run(empty, 500, 1);
        y.read(10);
        Maker.told("no bytes", y, 5, 0, 0);
    }

    private static void objectsAboveTheLast() {
        CrossTables x = new CrossTables();
        int s = Maker.stream(x, 10, -1, 1, 2, 3, 4, 5);
        x.widths(s, 0, 1, 0);
        x.run(s, 98, 3);
        x.run(s, 999, 1);
        x.run(s, 0, 2);
        Check.answers("three count", 3, () -> x.read(10));
        Maker.counts("98", x, 98, 4, 1, 0);
        Maker.counts("99", x, 99, 4, 2, 0);
        Maker.counts("0", x, 0, 4, 5, 0);
        Maker.told("they are rows all the same", x, 5, 0, 5, 7, 0, 5, 7, 98, 1, 7, 99, 2);
    }

    private static void rowsThatTellNothing() {
        CrossTables x = new CrossTables();
        Maker.table(x, 5, -1, "1 1\n" + Maker.row(0, 4, 'f'));
        int s = Maker.stream(x, 10, 5, 3, 1, 0, 2, 9, 9);
        x.widths(s, 1, 1, 1);
        x.run(s, 1, 1);
        Check.answers("the older one counts", 1, () -> x.read(10));
        Maker.counts("the older one", x, 1, 1, 0, 4);
        Maker.revisions("the older one", x, 1, 0);
        x.run(s, 1, 1);
        x.read(10);
        Maker.counts("the second row", x, 1, 3, 9, 9);
        Maker.revisions("both", x, 1, 1, 0);
    }
}
