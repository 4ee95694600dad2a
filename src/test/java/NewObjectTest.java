import java.util.NoSuchElementException;

/** Promise 1: a new object. */
public final class NewObjectTest {
    public static void main(String[] args) {
        Check.sentence("No sections", NewObjectTest::noSections);
        Check.sentence("no heads", NewObjectTest::noHeads);
        Check.sentence("nothing is read: nothing counts", NewObjectTest::nothingCounts);
        Check.sentence("nothing is read: nothing is told, no object is free, no section has a trailer", NewObjectTest::nothingElse);
        Check.sentence("objects are apart", NewObjectTest::objectsAreApart);
        Check.end();
    }

    private static void noSections() {
        CrossTables x = new CrossTables();
        Check.refuses("value(0, 0)", NoSuchElementException.class, () -> x.value(0, 0));
        Check.refuses("octet(0, 0)", NoSuchElementException.class, () -> x.octet(0, 0));
        for (long start : new long[] {-1, 0, 1, Maker.LAST}) {
            Check.answers("read(" + start + ")", -1, () -> x.read(start));
        }
        Check.answers("the first section", 0, () -> x.section(0, 0, -1));
    }

    private static void noHeads() {
        CrossTables x = new CrossTables();
        Check.answers("the first head", 1, () -> x.head(0, 0, 0));
        CrossTables y = Maker.readTable("0 1\n" + Maker.row(0, 0, 'n'));
        Maker.counts("no head at 0", y, 0, 4, 0, 0);
    }

    private static void nothingCounts() {
        CrossTables x = new CrossTables();
        for (int object = 0; object < 100; object++) {
            Maker.nothingCounts("new", x, object);
            Maker.revisions("new", x, object);
        }
    }

    private static void nothingElse() {
        CrossTables x = new CrossTables();
        Maker.told("new", x);
        Check.refuses("told(0, 0)", IndexOutOfBoundsException.class, () -> x.told(0, 0));
        Maker.frees("new", x);
        for (int key = 0; key < 10; key++) {
            int asked = key;
            Check.answers("trailer(" + key + ")", -1, () -> x.trailer(asked));
        }
    }

    private static void objectsAreApart() {
        CrossTables full = States.full();
        CrossTables fresh = new CrossTables();
        Check.answers("another one: read(100)", -1, () -> fresh.read(100));
        Check.answers("another one: head", 1, () -> fresh.head(6, 6, 6));
        Check.answers("another one: section", 0, () -> fresh.section(1, 100, -1));
        Check.answers("another one: byte", 1, () -> fresh.add(0, (byte) 1));
        Maker.nothingCounts("another one", fresh, 0);
        Check.answers("the full one", 10, () -> full.add(1, (byte) 1));
    }
}
