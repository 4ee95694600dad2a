/** Promise 12: place. */
public final class PlaceTest {
    private static final Class<IndexOutOfBoundsException> INDEX = IndexOutOfBoundsException.class;

    public static void main(String[] args) {
        Check.sentence("0 its place (or next free object, or the object that it lies in), 1 its GENERATION", PlaceTest::ofEachKind);
        Check.sentence("0 its place, 1 its GENERATION: the least and the greatest", PlaceTest::leastAndGreatest);
        Check.sentence("-1 when nothing does", PlaceTest::whenNothingDoes);
        Check.sentence("by the latest reading", PlaceTest::latestReading);
        Check.sentence("OBJECTS are 0 .. 99", PlaceTest::firstAndLast);
        Check.sentence("IndexOutOfBoundsException (object", PlaceTest::objectsBeyond);
        Check.sentence("then another what)", PlaceTest::whatsBeyond);
        Check.end();
    }

    private static void ofEachKind() {
        CrossTables x = new CrossTables();
        Maker.stream(x, 10, -1, 0, 0, 7, 1, 1, 0, 5, 2, 2, 0, 9, 3, 1, 0, 6, 4);
        x.run(0, 0, 4);
        x.head(5, 1, 2);
        x.read(10);
        Maker.counts("the next free object", x, 0, 1, 7, 1);
        Maker.counts("the place", x, 1, 2, 5, 2);
        Maker.counts("the object that it lies in", x, 2, 3, 9, 3);
        Maker.counts("the place of a wrong one", x, 3, 4, 6, 4);
    }

    private static void leastAndGreatest() {
        CrossTables x = Maker.readTable("0 3\n0 0 f\n9999999999 9999999999 f\n9999999999 9999999999 n");
        Maker.counts("the least", x, 0, 1, 0, 0);
        Maker.counts("the greatest", x, 1, 1, Maker.LAST, Maker.LAST);
        Maker.counts("the greatest, wrong", x, 2, 4, Maker.LAST, Maker.LAST);
    }

    private static void whenNothingDoes() {
        CrossTables x = Maker.readTable("1 1\n" + Maker.row(0, 0, 'f'));
        for (int object = 0; object < 100; object++) {
            if (object != 1) {
                Maker.nothingCounts("another one", x, object);
            }
        }
        Maker.counts("0 is not -1", x, 1, 1, 0, 0);
    }

    private static void latestReading() {
        CrossTables x = new CrossTables();
        Maker.table(x, 10, -1, "1 1\n" + Maker.row(5, 6, 'f'));
        Maker.table(x, 20, -1, "1 1\n" + Maker.row(7, 8, 'f'));
        Maker.nothingCounts("before a reading", x, 1);
        x.read(10);
        Maker.counts("the first", x, 1, 1, 5, 6);
        x.read(20);
        Maker.counts("the second", x, 1, 1, 7, 8);
        x.read(30);
        Maker.nothingCounts("no section is there", x, 1);
    }

    private static void firstAndLast() {
        CrossTables x = Maker.readTable("0 1\n" + Maker.row(5, 6, 'f') + "99 1\n" + Maker.row(7, 8, 'n'));
        Maker.counts("0", x, 0, 1, 5, 6);
        Maker.counts("99", x, 99, 4, 7, 8);
    }

    private static void objectsBeyond() {
        for (int object : new int[] {-1, 100, 256, Integer.MIN_VALUE, Integer.MAX_VALUE}) {
            for (int what = -1; what <= 2; what++) {
                int asked = what;
                Twins.refuse("place(" + object + ", " + what + ")", INDEX, States::some, x -> x.place(object, asked));
            }
            Twins.refuse("place(" + object + ", 0), nothing is read", INDEX, States::fresh, x -> x.place(object, 0));
        }
    }

    /** Also where nothing counts for the object. */
    private static void whatsBeyond() {
        for (int what : new int[] {-1, 2, 256, Integer.MIN_VALUE, Integer.MAX_VALUE}) {
            Twins.refuse("place(0, " + what + ")", INDEX, States::some, x -> x.place(0, what));
            Twins.refuse("place(99, " + what + ")", INDEX, States::some, x -> x.place(99, what));
            Twins.refuse("place(0, " + what + "), nothing is read", INDEX, States::fresh, x -> x.place(0, what));
        }
    }
}
