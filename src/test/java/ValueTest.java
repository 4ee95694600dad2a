import java.util.NoSuchElementException;

/** Promise 17: value. */
public final class ValueTest {
    private static final Class<NoSuchElementException> NONE = NoSuchElementException.class;

    public static void main(String[] args) {
        Check.sentence("The value of a key in a section", ValueTest::theValue);
        Check.sentence("0 without one", ValueTest::withoutOne);
        Check.sentence("of a section that is in no chain", ValueTest::inNoChain);
        Check.sentence("NoSuchElementException", ValueTest::noSuchSection);
        Check.sentence("IllegalArgumentException when key is not 0 .. 9", ValueTest::keysBeyond);
        Check.sentence("it is the one that it names first", ValueTest::firstNamed);
        Check.end();
    }

    private static void theValue() {
        CrossTables x = new CrossTables();
        x.section(1, 10, -1);
        int[] values = {0, 1, -1, 127, 128, 65536, Integer.MAX_VALUE, Integer.MIN_VALUE, 255, -2};
        for (int i = 0; i < 10; i++) {
            x.key(0, i, values[i]);
        }
        for (int i = 0; i < 10; i++) {
            int key = i;
            Check.answers("value(0, " + key + ")", values[i], () -> x.value(0, key));
        }
    }

    private static void withoutOne() {
        CrossTables x = States.some();
        for (int i = 0; i < 10; i++) {
            int key = i;
            Check.answers("value(0, " + key + ")", key == 1 ? 11 : 0, () -> x.value(0, key));
            Check.answers("value(1, " + key + ")", key == 9 ? 99 : 0, () -> x.value(1, key));
            Check.answers("value(2, " + key + ")", key == 2 ? 22 : 0, () -> x.value(2, key));
        }
        Check.answers("a value that was asked for is not given", 0, () -> x.key(0, 0, 5));
    }

    private static void inNoChain() {
        CrossTables x = new CrossTables();
        x.section(0, 10, -1);
        x.section(0, 20, -1);
        x.key(0, 3, 33);
        Check.answers("before a reading", 33, () -> x.value(0, 3));
        x.read(20);
        Check.answers("of another chain", 33, () -> x.value(0, 3));
        x.read(21);
        Check.answers("behind a reading of nothing", 33, () -> x.value(0, 3));
    }

    private static void noSuchSection() {
        Twins.refuse("value(0, 0) of a new object", NONE, States::fresh, x -> x.value(0, 0));
        for (int section : new int[] {-1, 3, 12, 256, Integer.MIN_VALUE, Integer.MAX_VALUE}) {
            Twins.refuse("value(" + section + ", 0)", NONE, States::some, x -> x.value(section, 0));
        }
        Twins.refuse("value(12, 0)", NONE, States::full, x -> x.value(12, 0));
        Check.answers("value(11, 2)", 22, () -> States.full().value(11, 2));
    }

    private static void keysBeyond() {
        for (int key : new int[] {-1, 10, 256, Integer.MIN_VALUE, Integer.MAX_VALUE}) {
            Twins.refuse("value(0, " + key + ")", IllegalArgumentException.class, States::some, x -> x.value(0, key));
            Twins.refuse("value(1, " + key + ")", IllegalArgumentException.class, States::some, x -> x.value(1, key));
        }
    }

    private static void firstNamed() {
        for (int key : new int[] {-1, 10}) {
            Twins.refuse("no section 3, and key " + key, NONE, States::some, x -> x.value(3, key));
            Twins.refuse("no section -1, and key " + key, NONE, States::some, x -> x.value(-1, key));
        }
    }
}
