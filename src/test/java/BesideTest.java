import java.util.NoSuchElementException;

/** Promise 5: beside. */
public final class BesideTest {
    private static final Class<IllegalArgumentException> ARGUMENT = IllegalArgumentException.class;

    public static void main(String[] args) {
        Check.sentence("of a TABLE the place BESIDE it (-1 at first: none)", BesideTest::atFirst);
        Check.sentence("The place beside a table: the one that it had", BesideTest::theOneItHad);
        Check.sentence("NoSuchElementException", BesideTest::noSuchSection);
        Check.sentence("IllegalArgumentException when it is a stream", BesideTest::stream);
        Check.sentence("place -1 .. 9999999999", BesideTest::firstAndLast);
        Check.sentence("IllegalArgumentException when place is not -1 .. 9999999999", BesideTest::placesBeyond);
        Check.sentence("it is the one that it names first", BesideTest::firstNamed);
        Check.end();
    }

    private static void atFirst() {
        CrossTables x = Maker.readTable("");
        Maker.told("none", x);
        Check.answers("none", -1, () -> x.beside(0, 5));
    }

    private static void theOneItHad() {
        CrossTables x = new CrossTables();
        x.section(0, 10, -1);
        x.section(0, 20, -1);
        Check.answers("none", -1, () -> x.beside(0, 5));
        Check.answers("5", 5, () -> x.beside(0, 5));
        Check.answers("5 again", 5, () -> x.beside(0, 10));
        Check.answers("its own place", 10, () -> x.beside(0, -1));
        Check.answers("none again", -1, () -> x.beside(0, -1));
        Check.answers("another table's", -1, () -> x.beside(1, 7));
        Check.answers("not another table's", -1, () -> x.beside(0, 8));
        Check.answers("another table's own", 7, () -> x.beside(1, 7));
    }

    private static void noSuchSection() {
        Twins.refuse("beside(0, 5) of a new object", NoSuchElementException.class, States::fresh, x -> x.beside(0, 5));
        for (int section : new int[] {-1, 3, 12, 256, Integer.MIN_VALUE, Integer.MAX_VALUE}) {
            Twins.refuse("beside(" + section + ", 5)", NoSuchElementException.class, States::some, x -> x.beside(section, 5));
        }
        Twins.refuse("beside(12, 5)", NoSuchElementException.class, States::full, x -> x.beside(12, 5));
        Check.answers("beside(2, 5)", 400, () -> States.some().beside(2, 5));
    }

    private static void stream() {
        for (long place : new long[] {-1, 0, 5, 100, 200, Maker.LAST}) {
            Twins.refuse("beside(1, " + place + ")", ARGUMENT, States::some, x -> x.beside(1, place));
        }
    }

    private static void firstAndLast() {
        CrossTables x = new CrossTables();
        x.section(0, 10, -1);
        Check.answers("place 0", -1, () -> x.beside(0, 0));
        x.read(10);
        Maker.told("0 is a place", x, 2, 0, 0);
        Check.answers("place 9999999999", 0, () -> x.beside(0, Maker.LAST));
        x.read(10);
        Maker.told("9999999999 is a place", x, 2, 0, Maker.LAST);
        Check.answers("place -1", Maker.LAST, () -> x.beside(0, -1));
        x.read(10);
        Maker.told("-1: none", x);
    }

    private static void placesBeyond() {
        for (long place : new long[] {-2, Maker.LAST + 1, 3L << 32, Long.MIN_VALUE, Long.MAX_VALUE}) {
            Twins.refuse("beside(0, " + place + ")", ARGUMENT, States::some, x -> x.beside(0, place));
            Twins.refuse("beside(2, " + place + ")", ARGUMENT, States::some, x -> x.beside(2, place));
        }
    }

    private static void firstNamed() {
        for (long place : new long[] {-2, Maker.LAST + 1}) {
            Twins.refuse("beside(-1, " + place + ")", NoSuchElementException.class, States::some, x -> x.beside(-1, place));
            Twins.refuse("beside(3, " + place + ")", NoSuchElementException.class, States::some, x -> x.beside(3, place));
        }
    }
}
