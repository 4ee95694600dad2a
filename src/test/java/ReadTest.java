/** Promise 10: read. */
public final class ReadTest {
    private static final long[] NO_PLACES = {9, 11, 0, -1, -2, Maker.LAST, Maker.LAST + 1, 10 + (1L << 32),
        10 - (1L << 32), Integer.MIN_VALUE, Integer.MAX_VALUE, Long.MIN_VALUE, Long.MAX_VALUE};

    public static void main(String[] args) {
        Check.sentence("of how many objects something COUNTS: none", ReadTest::none);
        Check.sentence("of how many objects something COUNTS: of each kind", ReadTest::ofEachKind);
        Check.sentence("of how many objects something COUNTS: each once", ReadTest::eachOnce);
        Check.sentence("of how many objects something COUNTS: all", ReadTest::all);
        Check.sentence("-1 when no section is there", ReadTest::noSectionThere);
        Check.sentence("(then nothing COUNTS", ReadTest::nothingCounts);
        Check.sentence("and nothing is TOLD)", ReadTest::nothingIsTold);
        Check.sentence("then no section tells, none is free, none has a trailer", ReadTest::nothingElse);
        Check.sentence("a reading knows nothing of the one before it", ReadTest::readAgain);
        Check.sentence("what comes later is not read", ReadTest::whatComesLater);
        Check.sentence("An object is used for at most 512 calls: up to the last one", ReadTest::lastCall);
        Check.end();
    }

    private static void none() {
        CrossTables x = new CrossTables();
        x.section(0, 10, -1);
        x.section(1, 20, -1);
        x.head(5, 5, 5);
        Check.answers("a table", 0, () -> x.read(10));
        Check.answers("a stream", 0, () -> x.read(20));
        Check.answers("rows above 99", 0, () -> Maker.readTable("100 1\n" + Maker.row(5, 0, 'n')).read(10));
    }

    private static void ofEachKind() {
        CrossTables x = new CrossTables();
        Maker.stream(x, 10, -1, 0, 0, 0, 0, 1, 0, 5, 0, 2, 0, 0, 0, 1, 0, 6, 0, 3, 0, 0, 0);
        x.head(5, 1, 0);
        int[] counts = {1, 2, 3, 4, 4};
        for (int i = 0; i < 5; i++) {
            x.run(0, i, 1);
            Check.answers("with object " + i, counts[i], () -> x.read(10));
        }
    }

    private static void eachOnce() {
        CrossTables x = new CrossTables();
        String text = "5 1\n" + Maker.row(0, 0, 'f');
        Maker.table(x, 10, -1, text + text);
        Maker.table(x, 20, 10, text);
        Check.answers("three rows of one object", 1, () -> x.read(20));
    }

    private static void all() {
        CrossTables x = new CrossTables();
        x.section(1, 10, -1);
        x.widths(0, 0, 0, 0);
        x.run(0, 0, 100);
        x.run(0, 50, 100);
        Check.answers("a hundred", 100, () -> x.read(10));
    }

    /** A section at 10 that tells, is told of, has a key and a free object. */
    private static CrossTables readOnce() {
        CrossTables x = new CrossTables();
        Maker.table(x, 10, 99, "0 3\n" + Maker.row(1, 0, 'f') + Maker.row(0, 0, 'f') + Maker.row(7, 0, 'n'));
        x.key(0, 1, 1);
        Check.answers("read(10)", 3, () -> x.read(10));
        return x;
    }

    private static void noSectionThere() {
        for (long start : NO_PLACES) {
            CrossTables x = readOnce();
            Check.answers("read(" + start + ")", -1, () -> x.read(start));
            Check.answers("read(10) again", 3, () -> x.read(10));
        }
        Check.answers("a new object", -1, () -> new CrossTables().read(0));
    }

    private static void nothingCounts() {
        for (long start : NO_PLACES) {
            CrossTables x = readOnce();
            x.read(start);
            for (int object = 0; object < 100; object++) {
                Maker.nothingCounts("read(" + start + ")", x, object);
            }
        }
    }

    private static void nothingIsTold() {
        for (long start : NO_PLACES) {
            CrossTables x = readOnce();
            Maker.told("read(10)", x, 2, 0, 99, 7, 2, 7);
            x.read(start);
            Maker.told("read(" + start + ")", x);
            Check.refuses("told(0, 0)", IndexOutOfBoundsException.class, () -> x.told(0, 0));
        }
    }

    private static void nothingElse() {
        for (long start : NO_PLACES) {
            CrossTables x = readOnce();
            Maker.revisions("read(10)", x, 2, 0);
            Maker.frees("read(10)", x, 1);
            Check.answers("read(10): trailer(1)", 0, () -> x.trailer(1));
            x.read(start);
            for (int object = 0; object < 3; object++) {
                Maker.revisions("read(" + start + ")", x, object);
            }
            Maker.frees("read(" + start + ")", x);
            Check.answers("read(" + start + "): trailer(1)", -1, () -> x.trailer(1));
        }
    }

    private static void readAgain() {
        CrossTables x = readOnce();
        Maker.table(x, 20, -1, "2 1\n" + Maker.row(0, 8, 'f'));
        Check.answers("read(20)", 1, () -> x.read(20));
        Maker.nothingCounts("read(20)", x, 0);
        Maker.nothingCounts("read(20)", x, 1);
        Maker.counts("read(20)", x, 2, 1, 0, 8);
        Maker.revisions("read(20)", x, 0);
        Maker.revisions("read(20)", x, 2, 1);
        Maker.told("read(20)", x);
        Maker.frees("read(20)", x);
        Check.answers("read(20): trailer(1)", -1, () -> x.trailer(1));
        Check.answers("read(10)", 3, () -> x.read(10));
        Check.answers("read(10) twice", 3, () -> x.read(10));
        Maker.told("read(10) twice", x, 2, 0, 99, 7, 2, 7);
        Maker.frees("read(10) twice", x, 1);
        Maker.revisions("read(10) twice", x, 2, 0);
    }

    private static void whatComesLater() {
        CrossTables x = readOnce();
        x.head(7, 2, 0);
        x.head(8, 1, 0);
        Maker.table(x, 99, -1, "3 1\n" + Maker.row(0, 0, 'f'));
        for (char c : ("4 1\n" + Maker.row(0, 0, 'f')).toCharArray()) {
            x.add(0, (byte) c);
        }
        Maker.told("before it is read again", x, 2, 0, 99, 7, 2, 7);
        Maker.counts("before it is read again", x, 2, 4, 7, 0);
        Maker.nothingCounts("before it is read again", x, 3);
        Maker.nothingCounts("before it is read again", x, 4);
        Check.answers("read again", 5, () -> x.read(10));
        Maker.told("read again", x, 6, 1, 8);
        Maker.counts("read again", x, 2, 2, 7, 0);
    }

    /** A full object takes 392 calls to make; each reading of it goes along all twelve sections. */
    private static void lastCall() {
        CrossTables x = States.full();
        for (int call = 393; call <= 512; call++) {
            Check.answers("call " + call, 14, () -> x.read(100));
        }
    }
}
