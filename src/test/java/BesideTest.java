import java.util.NoSuchElementException;

/** Promise 5: beside. */
public final class BesideTest {
    public static void main(String[] args) {
        CrossTables x = new CrossTables();
        x.section(0, 10, -1);
        x.section(1, 20, -1);
        Check.refuses("no section -1", NoSuchElementException.class, () -> x.beside(-1, 0));
        Check.refuses("no section 2, wrong place", NoSuchElementException.class, () -> x.beside(2, -2));
        Check.refuses("a stream", IllegalArgumentException.class, () -> x.beside(1, 5));
        Check.refuses("a stream, none", IllegalArgumentException.class, () -> x.beside(1, -1));
        Check.answers("none at first", -1, () -> x.beside(0, 0));
        Check.answers("0 was beside", 0, () -> x.beside(0, Maker.LAST));
        Check.refuses("-2", IllegalArgumentException.class, () -> x.beside(0, -2));
        Check.refuses("past the last", IllegalArgumentException.class, () -> x.beside(0, Maker.LAST + 1));
        Check.refuses("the least", IllegalArgumentException.class, () -> x.beside(0, Long.MIN_VALUE));
        Check.answers("the last was beside", Maker.LAST, () -> x.beside(0, -1));
        Check.answers("none was beside", -1, () -> x.beside(0, 10));
        Check.answers("its own place was beside", 10, () -> x.beside(0, 20));
        Check.end();
    }
}
