import java.util.NoSuchElementException;

/** Promise 4: octet. */
public final class OctetTest {
    private static final Class<ArrayIndexOutOfBoundsException> NO_BYTE = ArrayIndexOutOfBoundsException.class;

    public static void main(String[] args) {
        Check.sentence("A byte of a section", OctetTest::allBytes);
        Check.sentence("NoSuchElementException", OctetTest::noSuchSection);
        Check.sentence("ArrayIndexOutOfBoundsException, a section without bytes", OctetTest::empty);
        Check.sentence("ArrayIndexOutOfBoundsException, a section with some bytes", OctetTest::some);
        Check.sentence("ArrayIndexOutOfBoundsException, a section with 300 bytes", OctetTest::full);
        Check.sentence("it is the one that it names first", OctetTest::firstNamed);
        Check.end();
    }

    private static void allBytes() {
        CrossTables x = new CrossTables();
        x.section(1, 10, -1);
        for (int b = -128; b <= 127; b++) {
            x.add(0, (byte) b);
        }
        for (int b = -128; b <= 127; b += b == 0 ? 1 : 3) {
            int asked = b;
            Check.answers("octet(0, " + (b + 128) + ")", b, () -> x.octet(0, asked + 128));
        }
    }

    private static void noSuchSection() {
        Twins.refuse("octet(0, 0) of a new object", NoSuchElementException.class, States::fresh, x -> x.octet(0, 0));
        for (int section : new int[] {-1, 3, 12, 256, Integer.MIN_VALUE, Integer.MAX_VALUE}) {
            Twins.refuse("octet(" + section + ", 0)", NoSuchElementException.class, States::some, x -> x.octet(section, 0));
        }
        Twins.refuse("octet(12, 0)", NoSuchElementException.class, States::full, x -> x.octet(12, 0));
        Check.answers("octet(2, 0)", '1', () -> States.some().octet(2, 0));
    }

    private static void empty() {
        for (int i : new int[] {0, -1, 1, 299, 300, Integer.MIN_VALUE, Integer.MAX_VALUE}) {
            Twins.refuse("octet(11, " + i + ")", NO_BYTE, States::full, x -> x.octet(11, i));
        }
    }

    private static void some() {
        CrossTables x = States.some();
        Check.answers("the first byte of 9", 1, () -> x.octet(1, 0));
        Check.answers("the last byte of 9", 1, () -> x.octet(1, 8));
        for (int i : new int[] {-1, 9, 10, 299, 300, 256, Integer.MIN_VALUE, Integer.MAX_VALUE}) {
            Twins.refuse("octet(1, " + i + ")", NO_BYTE, States::some, y -> y.octet(1, i));
        }
    }

    private static void full() {
        CrossTables x = States.full();
        Check.answers("the first byte of 300", 32, () -> x.octet(0, 0));
        Check.answers("the last byte of 300", 10, () -> x.octet(0, 299));
        for (int i : new int[] {-1, 300, 301, Integer.MIN_VALUE, Integer.MAX_VALUE}) {
            Twins.refuse("octet(0, " + i + ")", NO_BYTE, States::full, y -> y.octet(0, i));
        }
    }

    private static void firstNamed() {
        for (int i : new int[] {-1, 300, Integer.MIN_VALUE, Integer.MAX_VALUE}) {
            Twins.refuse("octet(-1, " + i + ")", NoSuchElementException.class, States::some, x -> x.octet(-1, i));
            Twins.refuse("octet(3, " + i + ")", NoSuchElementException.class, States::some, x -> x.octet(3, i));
        }
    }
}
