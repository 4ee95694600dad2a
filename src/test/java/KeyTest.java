import java.util.NoSuchElementException;

/** Promises 8, 16 and 17: key, trailer, value. */
public final class KeyTest {
    public static void main(String[] args) {
        keysAndValues();
        wrongInputs();
        trailers();
        Check.end();
    }

    private static void keysAndValues() {
        CrossTables x = new CrossTables();
        x.section(0, 10, -1);
        x.section(1, 20, -1);
        for (int i = 0; i < 10; i++) {
            int key = i;
            Check.answers("no value of " + key, 0, () -> x.value(0, key));
            Check.answers("first value of " + key, 0, () -> x.key(0, key, key * 10));
            Check.answers("value of " + key, key * 10, () -> x.value(0, key));
            Check.answers("no value there", 0, () -> x.value(1, key));
        }
        Check.answers("another value", 1, () -> x.key(0, 0, Integer.MIN_VALUE));
        Check.answers("it is that then", Integer.MIN_VALUE, () -> x.value(0, 0));
        Check.answers("0 in its place", 1, () -> x.key(0, 0, 0));
        Check.answers("0 is a value", 1, () -> x.key(0, 0, -1));
        Check.answers("-1", -1, () -> x.value(0, 0));
        Check.answers("a stream's", 0, () -> x.key(1, 9, Integer.MAX_VALUE));
        Check.answers("the stream's value", Integer.MAX_VALUE, () -> x.value(1, 9));
        Check.answers("the table's value", 90, () -> x.value(0, 9));
    }

    private static void wrongInputs() {
        CrossTables x = new CrossTables();
        x.section(0, 10, -1);
        x.read(10);
        for (int key : new int[] {-1, 10, Integer.MIN_VALUE, Integer.MAX_VALUE}) {
            Check.refuses("key(0, " + key + ")", IllegalArgumentException.class, () -> x.key(0, key, 1));
            Check.refuses("key(1, " + key + ")", NoSuchElementException.class, () -> x.key(1, key, 1));
            Check.refuses("value(0, " + key + ")", IllegalArgumentException.class, () -> x.value(0, key));
            Check.refuses("value(-1, " + key + ")", NoSuchElementException.class, () -> x.value(-1, key));
            Check.refuses("trailer(" + key + ")", IllegalArgumentException.class, () -> x.trailer(key));
        }
        Check.refuses("value(1, 0)", NoSuchElementException.class, () -> x.value(1, 0));
        Check.refuses("key(-1, 0, 0)", NoSuchElementException.class, () -> x.key(-1, 0, 0));
    }

    private static void trailer(String what, CrossTables x, int key, int want) {
        Check.answers(what + ": trailer(" + key + ")", want, () -> x.trailer(key));
    }

    private static void trailers() {
        CrossTables x = new CrossTables();
        x.section(0, 10, -1);
        x.section(1, 20, 40);
        x.section(0, 30, 10);
        x.section(0, 40, -1);
        x.beside(2, 20);
        x.key(0, 0, 5);
        x.key(0, 1, 5);
        x.key(0, 2, 0);
        x.key(1, 0, 6);
        x.key(1, 1, 6);
        x.key(2, 0, 7);
        x.key(3, 3, 8);
        trailer("before a reading", x, 0, -1);
        x.read(30);
        trailer("the first one", x, 0, 2);
        trailer("the one beside", x, 1, 1);
        trailer("the one before, a value of 0", x, 2, 0);
        trailer("not in the chain", x, 3, -1);
        trailer("none has one", x, 9, -1);
        x.read(10);
        trailer("another chain", x, 0, 0);
        trailer("another chain", x, 1, 0);
        x.key(0, 9, 1);
        trailer("a value that came later", x, 9, 0);
        x.read(11);
        trailer("no chain", x, 0, -1);
    }
}
