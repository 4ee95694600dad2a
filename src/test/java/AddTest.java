import java.util.NoSuchElementException;

/** Promises 3 and 4: add, octet. */
public final class AddTest {
    public static void main(String[] args) {
        CrossTables x = new CrossTables();
        Check.refuses("add without sections", NoSuchElementException.class, () -> x.add(0, (byte) 1));
        x.section(0, 10, -1);
        x.section(1, 20, -1);
        Check.refuses("add(-1)", NoSuchElementException.class, () -> x.add(-1, (byte) 1));
        Check.refuses("add(2)", NoSuchElementException.class, () -> x.add(2, (byte) 1));
        Check.refuses("octet(-1, 0)", NoSuchElementException.class, () -> x.octet(-1, 0));
        Check.refuses("octet(2, -1)", NoSuchElementException.class, () -> x.octet(2, -1));
        for (int i = 0; i < 300; i++) {
            byte b = (byte) (i * 7);
            Check.answers("byte " + i, i + 1, () -> x.add(0, b));
        }
        Check.refuses("a byte more", UnsupportedOperationException.class, () -> x.add(0, (byte) 99));
        for (int i = 0; i < 300; i += i < 10 || i > 290 ? 1 : 7) {
            int asked = i;
            Check.answers("octet(0, " + i + ")", (byte) (i * 7), () -> x.octet(0, asked));
        }
        bytesThatAreNotThere(x, 0, 300);
        bytesThatAreNotThere(x, 1, 0);
        Check.answers("the other section has bytes of its own", 1, () -> x.add(1, (byte) -128));
        Check.answers("octet(1, 0)", -128, () -> x.octet(1, 0));
        bytesThatAreNotThere(x, 1, 1);
        Check.end();
    }

    private static void bytesThatAreNotThere(CrossTables x, int section, int count) {
        int[] indices = {-1, Integer.MIN_VALUE, count, count + 1, 301, Integer.MAX_VALUE};
        for (int i : indices) {
            Check.refuses("octet(" + section + ", " + i + ")",
                    ArrayIndexOutOfBoundsException.class, () -> x.octet(section, i));
        }
    }
}
