import java.util.NoSuchElementException;

/** Promise 1: no sections, no heads; nothing is read. */
public final class NewObjectTest {
    public static void main(String[] args) {
        nothingIsRead();
        CrossTables x = new CrossTables();
        Maker.told("new", x);
        Maker.frees("new", x);
        for (int key = 0; key < 10; key++) {
            int asked = key;
            Check.answers("trailer(" + key + ")", -1, () -> x.trailer(asked));
        }
        Check.refuses("value(0, 0)", NoSuchElementException.class, () -> x.value(0, 0));
        Check.refuses("octet(0, 0)", NoSuchElementException.class, () -> x.octet(0, 0));
        Check.answers("read(0)", -1, () -> x.read(0));
        Check.answers("head(0, 0, 0)", 1, () -> x.head(0, 0, 0));
        Check.answers("section(0, 0, -1)", 0, () -> x.section(0, 0, -1));
        objectsAreApart();
        Check.end();
    }

    private static void nothingIsRead() {
        CrossTables x = new CrossTables();
        for (int object = 0; object < 100; object++) {
            Maker.nothingCounts("new", x, object);
            Maker.revisions("new", x, object);
        }
    }

    private static void objectsAreApart() {
        CrossTables full = new CrossTables();
        Maker.table(full, 5, -1, "0 1\n" + Maker.row(0, 0, 'f'));
        full.head(5, 5, 5);
        full.read(5);
        CrossTables fresh = new CrossTables();
        Check.answers("another one: read(5)", -1, () -> fresh.read(5));
        Check.answers("another one: head", 1, () -> fresh.head(6, 6, 6));
        Check.answers("another one: section", 0, () -> fresh.section(1, 5, -1));
    }
}
