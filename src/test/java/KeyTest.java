import java.util.NoSuchElementException;

/** Promise 8: key; and of the terms VALUES of KEYS 0 .. 9. */
public final class KeyTest {
    private static final Class<NoSuchElementException> NONE = NoSuchElementException.class;

    public static void main(String[] args) {
        Check.sentence("1 if it had one, else 0", KeyTest::oneIfItHadOne);
        Check.sentence("(it is that then)", KeyTest::itIsThatThen);
        Check.sentence("a value of 0 is one", KeyTest::zeroIsOne);
        Check.sentence("VALUES of KEYS 0 .. 9", KeyTest::firstAndLast);
        Check.sentence("each section has values of its own", KeyTest::ofItsOwn);
        Check.sentence("NoSuchElementException", KeyTest::noSuchSection);
        Check.sentence("IllegalArgumentException when key is not 0 .. 9", KeyTest::keysBeyond);
        Check.sentence("it is the one that it names first", KeyTest::firstNamed);
        Check.end();
    }

    private static CrossTables both() {
        CrossTables x = new CrossTables();
        x.section(0, 10, -1);
        x.section(1, 20, -1);
        return x;
    }

    private static void oneIfItHadOne() {
        CrossTables x = both();
        Check.answers("the first time", 0, () -> x.key(0, 5, 7));
        Check.answers("the second time", 1, () -> x.key(0, 5, 8));
        Check.answers("the third time", 1, () -> x.key(0, 5, 8));
        Check.answers("another key", 0, () -> x.key(0, 6, 8));
    }

    private static void itIsThatThen() {
        CrossTables x = both();
        for (int value : new int[] {7, 8, 8, -1, Integer.MAX_VALUE, Integer.MIN_VALUE, 0, 1}) {
            x.key(0, 5, value);
            Check.answers("value(0, 5)", value, () -> x.value(0, 5));
        }
    }

    private static void zeroIsOne() {
        CrossTables x = both();
        Check.answers("key(0, 5, 0)", 0, () -> x.key(0, 5, 0));
        x.read(10);
        Check.answers("the section has a value", 0, () -> x.trailer(5));
        Check.answers("it had one", 1, () -> x.key(0, 5, 0));
    }

    private static void firstAndLast() {
        CrossTables x = both();
        for (int i = 0; i < 10; i++) {
            int key = i;
            Check.answers("key(0, " + key + ")", 0, () -> x.key(0, key, key + 100));
        }
        for (int i = 0; i < 10; i++) {
            int key = i;
            Check.answers("value(0, " + key + ")", key + 100, () -> x.value(0, key));
        }
    }

    private static void ofItsOwn() {
        CrossTables x = both();
        x.key(0, 5, 7);
        Check.answers("the stream had none", 0, () -> x.value(1, 5));
        Check.answers("the stream's first", 0, () -> x.key(1, 5, 9));
        Check.answers("the table's", 7, () -> x.value(0, 5));
        Check.answers("the stream's", 9, () -> x.value(1, 5));
    }

    private static void noSuchSection() {
        Twins.refuse("key(0, 0, 1) of a new object", NONE, States::fresh, x -> x.key(0, 0, 1));
        for (int section : new int[] {-1, 3, 12, 256, Integer.MIN_VALUE, Integer.MAX_VALUE}) {
            Twins.refuse("key(" + section + ", 0, 1)", NONE, States::some, x -> x.key(section, 0, 1));
        }
        Twins.refuse("key(12, 0, 1)", NONE, States::full, x -> x.key(12, 0, 1));
        Check.answers("key(11, 2, 1)", 1, () -> States.full().key(11, 2, 1));
    }

    private static void keysBeyond() {
        for (int key : new int[] {-1, 10, 256, Integer.MIN_VALUE, Integer.MAX_VALUE}) {
            for (int section = 0; section < 3; section++) {
                int asked = section;
                Twins.refuse("key(" + section + ", " + key + ", 5)", IllegalArgumentException.class, States::some,
                        x -> x.key(asked, key, 5));
            }
        }
    }

    private static void firstNamed() {
        for (int key : new int[] {-1, 10}) {
            Twins.refuse("no section 3, and key " + key, NONE, States::some, x -> x.key(3, key, 1));
            Twins.refuse("no section -1, and key " + key, NONE, States::some, x -> x.key(-1, key, 1));
        }
    }
}
