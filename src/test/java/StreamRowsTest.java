/** Of the terms: the ROWS of a STREAM, their three numbers, and a ROW PAST. */
public final class StreamRowsTest {
    public static void main(String[] args) {
        Check.sentence("Run by run each object has a ROW", StreamRowsTest::runByRun);
        Check.sentence("a ROW of a + b + c bytes", StreamRowsTest::rowsOfManyBytes);
        Check.sentence("three numbers, the highest byte first", StreamRowsTest::highestByteFirst);
        Check.sentence("three numbers of 1 to 4 bytes: the least and the greatest", StreamRowsTest::leastAndGreatest);
        Check.sentence("one without bytes is 1 (the first number)", StreamRowsTest::firstWithoutBytes);
        Check.sentence("or 0 (the second)", StreamRowsTest::secondWithoutBytes);
        Check.sentence("or 0 (the third)", StreamRowsTest::thirdWithoutBytes);
        Check.sentence("all three without bytes", StreamRowsTest::allWithoutBytes);
        Check.sentence("The first is 0 FREE, 1 USED, 2 WITHIN; others: the ROW tells nothing", StreamRowsTest::firstNumbers);
        Check.sentence("The first, of 2, 3 and 4 bytes", StreamRowsTest::wideFirstNumbers);
        Check.sentence("WITHIN: the object that it lies in, and the number there", StreamRowsTest::within);
        Check.sentence("a ROW that tells nothing leaves the object to the next one", StreamRowsTest::tellsNothing);
        Check.sentence("Where a byte is not there that is a ROW PAST", StreamRowsTest::rowPast);
        Check.sentence("a ROW PAST: how many ROWS were read before", StreamRowsTest::howManyWereRead);
        Check.sentence("a ROW PAST of each width", StreamRowsTest::rowPastOfEachWidth);
        Check.sentence("a ROW PAST, and nothing behind is read", StreamRowsTest::nothingBehind);
        Check.sentence("bytes behind the last ROW are nothing", StreamRowsTest::bytesBehind);
        Check.sentence("a stream without runs", StreamRowsTest::noRuns);
        Check.end();
    }

    private static CrossTables stream(int a, int b, int c, int... bytes) {
        CrossTables x = new CrossTables();
        Maker.stream(x, 10, -1, bytes);
        x.widths(0, a, b, c);
        return x;
    }

    /** A stream with one run, of object 7 alone, that is read. */
    private static CrossTables seven(int a, int b, int c, int... bytes) {
        CrossTables x = stream(a, b, c, bytes);
        x.run(0, 7, 1);
        x.read(10);
        return x;
    }

    private static void runByRun() {
        CrossTables x = stream(0, 1, 0, 1, 2, 3, 4, 5, 6, 7);
        x.run(0, 20, 2);
        x.run(0, 5, 1);
        x.run(0, 20, 3);
        x.run(0, 99, 1);
        Check.answers("five count", 5, () -> x.read(10));
        Maker.counts("the first run", x, 20, 4, 1, 0);
        Maker.counts("the first run", x, 21, 4, 2, 0);
        Maker.counts("the second run", x, 5, 4, 3, 0);
        Maker.counts("the third run", x, 22, 4, 6, 0);
        Maker.counts("the fourth run", x, 99, 4, 7, 0);
        Maker.told("wrong ones by objects", x, 7, 5, 3, 7, 20, 1, 7, 21, 2, 7, 22, 6, 7, 99, 7);
    }

    private static void rowsOfManyBytes() {
        CrossTables x = stream(1, 2, 1, 0, 0, 1, 2, 0, 0, 3, 4, 0, 0, 5, 6);
        x.run(0, 7, 3);
        x.read(10);
        Maker.counts("four bytes", x, 7, 1, 1, 2);
        Maker.counts("four bytes", x, 8, 1, 3, 4);
        Maker.counts("four bytes", x, 9, 1, 5, 6);
        x.widths(0, 2, 3, 1);
        x.read(10);
        Maker.counts("six bytes", x, 7, 1, 0x010200, 0);
        Maker.told("six bytes, two rows", x, 5, 0, 2);
        CrossTables y = stream(4, 4, 4, 0, 0, 0, 0, 0, 0, 0, 5, 0, 0, 0, 6, 0, 0, 0, 0, 0, 0, 0, 8, 0, 0, 0, 9);
        y.run(0, 7, 2);
        y.read(10);
        Maker.counts("twelve bytes", y, 7, 1, 5, 6);
        Maker.counts("twelve bytes", y, 8, 1, 8, 9);
    }

    private static void highestByteFirst() {
        Maker.counts("one byte", seven(1, 1, 1, 0, 200, 201), 7, 1, 200, 201);
        Maker.counts("two bytes", seven(1, 2, 2, 0, 1, 2, 3, 4), 7, 1, 0x0102, 0x0304);
        Maker.counts("three bytes", seven(1, 3, 3, 0, 1, 2, 3, 4, 5, 6), 7, 1, 0x010203, 0x040506);
        Maker.counts("four bytes", seven(1, 4, 4, 0, 1, 2, 3, 4, 5, 6, 7, 8), 7, 1, 0x01020304, 0x05060708);
        Maker.counts("unlike widths", seven(2, 1, 3, 0, 2, 9, 3, 4, 5), 7, 3, 9, 0x030405);
    }

    private static void leastAndGreatest() {
        long greatest = 0;
        for (int width = 1; width <= 4; width++) {
            greatest = greatest * 256 + 255;
            int[] least = new int[1 + 2 * width];
            int[] all = new int[1 + 2 * width];
            int[] high = new int[1 + 2 * width];
            for (int i = 1; i < all.length; i++) {
                all[i] = 255;
            }
            high[1] = 128;
            high[1 + width] = 128;
            Maker.counts(width + " bytes of 0", seven(1, width, width, least), 7, 1, 0, 0);
            Maker.counts(width + " bytes of 255", seven(1, width, width, all), 7, 1, greatest, greatest);
            Maker.counts(width + " bytes, the highest bit", seven(1, width, width, high), 7, 1,
                    greatest / 2 + 1, greatest / 2 + 1);
        }
    }

    private static void firstWithoutBytes() {
        CrossTables x = seven(0, 1, 1, 5, 8);
        Maker.counts("used, without a head", x, 7, 4, 5, 8);
        x.head(5, 7, 8);
        x.read(10);
        Maker.counts("used", x, 7, 2, 5, 8);
    }

    private static void secondWithoutBytes() {
        Maker.counts("free", seven(1, 0, 1, 0, 9), 7, 1, 0, 9);
        Maker.counts("used", seven(1, 0, 1, 1, 9), 7, 4, 0, 9);
        Maker.counts("within", seven(1, 0, 1, 2, 9), 7, 3, 0, 9);
        CrossTables x = seven(1, 0, 1, 1, 9);
        x.head(0, 7, 9);
        x.read(10);
        Maker.counts("the head is at 0", x, 7, 2, 0, 9);
    }

    private static void thirdWithoutBytes() {
        Maker.counts("free", seven(1, 1, 0, 0, 9), 7, 1, 9, 0);
        Maker.counts("used", seven(1, 1, 0, 1, 9), 7, 4, 9, 0);
        Maker.counts("within", seven(1, 1, 0, 2, 9), 7, 3, 9, 0);
        CrossTables x = seven(1, 1, 0, 1, 9);
        x.head(9, 7, 0);
        x.read(10);
        Maker.counts("the head's generation is 0", x, 7, 2, 9, 0);
    }

    private static void allWithoutBytes() {
        CrossTables x = stream(0, 0, 0);
        x.run(0, 0, 100);
        x.head(0, 60, 0);
        Check.answers("no byte is missing", 100, () -> x.read(10));
        Maker.counts("used", x, 60, 2, 0, 0);
        Maker.counts("wrong", x, 99, 4, 0, 0);
        Check.answers("all but one are wrong, none is past", 99, () -> x.told(-1, 0));
        Check.answers("the first of them", 7, () -> x.told(0, 0));
        CrossTables y = stream(0, 0, 0, 1, 2, 3);
        y.run(0, 7, 1);
        y.read(10);
        Maker.counts("bytes that no row takes", y, 7, 4, 0, 0);
    }

    private static void firstNumbers() {
        int[] kinds = {1, 4, 3};
        for (int first = 0; first < 256; first++) {
            CrossTables x = seven(1, 1, 1, first, 5, 6);
            if (first < 3) {
                Maker.counts("a first of " + first, x, 7, kinds[first], 5, 6);
                Maker.revisions("a first of " + first, x, 7, 0);
            } else {
                Maker.nothingCounts("a first of " + first, x, 7);
                Maker.revisions("a first of " + first, x, 7);
                Maker.told("a first of " + first, x);
            }
        }
    }

    private static void wideFirstNumbers() {
        int[] kinds = {1, 4, 3, 0};
        for (int low = 0; low < 4; low++) {
            CrossTables[] all = {seven(2, 0, 0, 0, low), seven(3, 0, 0, 0, 0, low), seven(4, 0, 0, 0, 0, 0, low)};
            for (CrossTables x : all) {
                int want = kinds[low];
                Check.answers("zeros and " + low, want, () -> x.kind(7));
            }
            CrossTables[] none = {seven(2, 0, 0, 1, low), seven(3, 0, 0, 1, 0, low), seven(4, 0, 0, 1, 0, 0, low),
                seven(4, 0, 0, 128, 0, 0, low), seven(4, 0, 0, 255, 255, 255, low), seven(2, 0, 0, low == 0 ? 3 : low, 0)};
            for (CrossTables x : none) {
                Maker.nothingCounts("a high byte and " + low, x, 7);
            }
        }
        Maker.nothingCounts("all bits", seven(4, 0, 0, 255, 255, 255, 255), 7);
    }

    private static void within() {
        CrossTables x = stream(1, 2, 1, 2, 0, 9, 1, 2, 0, 0, 0, 2, 1, 0, 255, 2, 0, 10, 0);
        x.run(0, 7, 4);
        x.head(9, 9, 9);
        Check.answers("four count", 4, () -> x.read(10));
        Maker.counts("in 9", x, 7, 3, 9, 1);
        Maker.counts("in 0", x, 8, 3, 0, 0);
        Maker.counts("in one above 99", x, 9, 3, 256, 255);
        Maker.counts("in itself", x, 10, 3, 10, 0);
        Maker.told("none is wrong", x);
    }

    private static void tellsNothing() {
        CrossTables x = new CrossTables();
        Maker.table(x, 5, -1, "1 1\n" + Maker.row(0, 4, 'f'));
        Maker.stream(x, 10, 5, 3, 1, 0, 2, 9, 9);
        x.widths(1, 1, 1, 1);
        x.run(1, 1, 1);
        Check.answers("the older one counts", 1, () -> x.read(10));
        Maker.counts("the older one", x, 1, 1, 0, 4);
        Maker.revisions("the older one", x, 1, 0);
        x.run(1, 1, 1);
        x.read(10);
        Maker.counts("the second row", x, 1, 3, 9, 9);
        Maker.revisions("both", x, 1, 1, 0);
    }

    private static void rowPast() {
        CrossTables x = new CrossTables();
        x.section(1, 10, -1);
        x.run(0, 7, 2);
        int[] bytes = {0, 0, 5, 6, 0, 0, 8, 9};
        for (int have = 0; have <= 8; have++) {
            int rows = have / 4;
            Check.answers(have + " bytes", rows, () -> x.read(10));
            Maker.told(have + " bytes", x, rows == 2 ? new long[0] : new long[] {5, 0, rows});
            if (have < 8) {
                x.add(0, (byte) bytes[have]);
            }
        }
        Maker.counts("the first row", x, 7, 1, 5, 6);
        Maker.counts("the second row", x, 8, 1, 8, 9);
    }

    /** Rows that tell nothing were read, too. */
    private static void howManyWereRead() {
        CrossTables x = stream(1, 0, 0, 0, 3, 255, 0, 2, 0);
        x.run(0, 98, 4);
        x.run(0, 999, 1);
        x.run(0, 0, 2);
        Check.answers("98 and 0 count", 2, () -> x.read(10));
        Maker.told("six rows", x, 5, 0, 6);
        CrossTables y = stream(0, 0, 1);
        y.run(0, 500, 100);
        y.read(10);
        Maker.told("no row, none would tell", y, 5, 0, 0);
        CrossTables z = stream(0, 0, 1, new int[299]);
        for (int i = 0; i < 6; i++) {
            z.run(0, 0, 100);
        }
        z.read(10);
        Check.answers("299 rows", 5, () -> z.told(0, 0));
        Check.answers("299 rows", 299, () -> z.told(0, 2));
    }

    private static void rowPastOfEachWidth() {
        for (int i = 1; i < 125; i++) {
            int a = i / 25;
            int b = i / 5 % 5;
            int c = i % 5;
            String what = a + ", " + b + ", " + c;
            CrossTables enough = seven(a, b, c, new int[a + b + c]);
            Check.answers(what + ", bytes enough", a == 0 ? 4 : 1, () -> enough.kind(7));
            CrossTables tooFew = seven(a, b, c, new int[a + b + c - 1]);
            Maker.nothingCounts(what + ", one byte too few", tooFew, 7);
            Maker.told(what + ", one byte too few", tooFew, 5, 0, 0);
        }
    }

    private static void nothingBehind() {
        CrossTables x = stream(1, 1, 1, 0, 0, 1, 0, 0);
        x.run(0, 7, 3);
        x.run(0, 40, 1);
        Check.answers("one row", 1, () -> x.read(10));
        Maker.told("told once", x, 5, 0, 1);
        Maker.nothingCounts("half a row", x, 8);
        Maker.nothingCounts("the next row", x, 9);
        Maker.nothingCounts("the next run", x, 40);
        Maker.revisions("half a row", x, 8);
    }

    private static void bytesBehind() {
        CrossTables x = stream(1, 1, 1, 0, 0, 1, 0, 0, 2, 0);
        x.run(0, 7, 1);
        Check.answers("four bytes behind", 1, () -> x.read(10));
        Maker.told("four bytes behind", x);
        x.run(0, 8, 1);
        Check.answers("one byte behind", 2, () -> x.read(10));
        Maker.told("one byte behind", x);
    }

    private static void noRuns() {
        CrossTables x = stream(1, 1, 1, 0, 0, 1);
        Check.answers("bytes that no run takes", 0, () -> x.read(10));
        Maker.told("bytes that no run takes", x);
        CrossTables y = stream(0, 0, 0);
        Check.answers("nothing at all", 0, () -> y.read(10));
        Maker.told("nothing at all", y);
    }
}
