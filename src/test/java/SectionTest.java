/** Promise 2: section; and of the terms what they say of SECTIONS, their KIND, PLACE and what is BEFORE them. */
public final class SectionTest {
    private static final Class<IllegalArgumentException> ARGUMENT = IllegalArgumentException.class;
    private static final Class<UnsupportedOperationException> FULL = UnsupportedOperationException.class;

    public static void main(String[] args) {
        Check.sentence("A section without bytes", SectionTest::withoutBytes);
        Check.sentence("its number", SectionTest::itsNumber);
        Check.sentence("a KIND, 0 TABLE or 1 STREAM", SectionTest::bothKinds);
        Check.sentence("IllegalArgumentException when kind is not 0, 1", SectionTest::otherKinds);
        Check.sentence("a PLACE 0 .. 9999999999", SectionTest::firstAndLastPlace);
        Check.sentence("IllegalArgumentException when place is not 0 .. 9999999999", SectionTest::placesBeyond);
        Check.sentence("(no two the same)", SectionTest::placeOfAnotherOne);
        Check.sentence("no two the same: those that differ by 2 to the 32 are not", SectionTest::placesThatWrapAround);
        Check.sentence("a place that is only named is free", SectionTest::placeThatIsOnlyNamed);
        Check.sentence("the place BEFORE them (-1: none) .. 9999999999", SectionTest::firstAndLastBefore);
        Check.sentence("IllegalArgumentException when before is not -1 .. 9999999999", SectionTest::beforesBeyond);
        Check.sentence("SECTIONS 0, 1, .. (12 at most)", SectionTest::twelve);
        Check.sentence("UnsupportedOperationException when there are 12", SectionTest::thirteenth);
        Check.sentence("it is the one that it names first", SectionTest::firstNamed);
        Check.end();
    }

    private static void refuse(int kind, long place, long before) {
        Twins.refuse("section(" + kind + ", " + place + ", " + before + ")", ARGUMENT, States::some,
                x -> x.section(kind, place, before));
    }

    private static void withoutBytes() {
        for (int k = 0; k < 2; k++) {
            int kind = k;
            CrossTables x = new CrossTables();
            x.section(kind, 10, -1);
            Check.refuses("octet(0, 0)", ArrayIndexOutOfBoundsException.class, () -> x.octet(0, 0));
            Check.answers("read(10)", 0, () -> x.read(10));
            Maker.told("without bytes", x);
            Check.answers("the first byte", 1, () -> x.add(0, (byte) 5));
        }
    }

    private static void itsNumber() {
        CrossTables x = new CrossTables();
        Check.answers("the first", 0, () -> x.section(1, 70, -1));
        Check.answers("the second", 1, () -> x.section(0, 60, -1));
        Check.answers("the third", 2, () -> x.section(1, 80, -1));
    }

    private static void bothKinds() {
        CrossTables x = new CrossTables();
        x.section(0, 10, -1);
        x.section(1, 20, -1);
        Check.answers("0 is a table", -1, () -> x.beside(0, 5));
        Check.refuses("0 is no stream", ARGUMENT, () -> x.run(0, 0, 1));
        Check.answers("1 is a stream", 1, () -> x.run(1, 0, 1));
        Check.refuses("1 is no table", ARGUMENT, () -> x.beside(1, 5));
    }

    private static void otherKinds() {
        for (int kind : new int[] {-1, 2, 256, 257, Integer.MIN_VALUE, Integer.MAX_VALUE}) {
            refuse(kind, 1, -1);
        }
    }

    private static void firstAndLastPlace() {
        CrossTables x = new CrossTables();
        Check.answers("place 0", 0, () -> x.section(0, 0, -1));
        Check.answers("place 9999999999", 1, () -> x.section(1, Maker.LAST, -1));
        Check.answers("read(0)", 0, () -> x.read(0));
        Check.answers("read(9999999999)", 0, () -> x.read(Maker.LAST));
    }

    private static void placesBeyond() {
        for (long place : new long[] {-1, -2, Maker.LAST + 1, 3L << 32, Long.MIN_VALUE, Long.MAX_VALUE}) {
            refuse(0, place, -1);
            refuse(1, place, -1);
        }
    }

    private static void placeOfAnotherOne() {
        for (long place : new long[] {100, 200, 300}) {
            refuse(0, place, -1);
            refuse(1, place, -1);
        }
        Check.answers("one more", 3, () -> States.some().section(0, 101, -1));
        Check.answers("one less", 3, () -> States.some().section(1, 299, -1));
    }

    private static void placesThatWrapAround() {
        CrossTables x = new CrossTables();
        long far = 10 + (1L << 32);
        Maker.table(x, 10, -1, "1 1\n" + Maker.row(0, 7, 'f'));
        Check.answers("another place", 1, () -> x.section(0, far, -1));
        Check.answers("read(10)", 1, () -> x.read(10));
        Check.answers("read(10 + 2^32)", 0, () -> x.read(far));
        Check.answers("read(10 + 2 * 2^32)", -1, () -> x.read(10 + (2L << 32)));
    }

    /** Before, beside and a head's are places, too, but those of no section. */
    private static void placeThatIsOnlyNamed() {
        CrossTables x = States.some();
        Check.answers("a head's", 3, () -> x.section(0, 17, -1));
        Check.answers("what is beside", 4, () -> x.section(1, 400, 500));
        Check.answers("what is before", 5, () -> x.section(0, 500, -1));
    }

    private static void firstAndLastBefore() {
        CrossTables x = new CrossTables();
        Check.answers("before -1", 0, () -> x.section(0, 10, -1));
        Check.answers("before 0", 1, () -> x.section(0, 20, 0));
        Check.answers("before 9999999999", 2, () -> x.section(1, 30, Maker.LAST));
        Check.answers("before itself", 3, () -> x.section(1, 40, 40));
        x.read(10);
        Maker.told("-1: none", x);
        x.read(20);
        Maker.told("0 is a place", x, 2, 1, 0);
        x.read(30);
        Maker.told("9999999999 is a place", x, 2, 2, Maker.LAST);
    }

    private static void beforesBeyond() {
        for (long before : new long[] {-2, Maker.LAST + 1, 3L << 32, Long.MIN_VALUE, Long.MAX_VALUE}) {
            refuse(0, 1, before);
            refuse(1, 1, before);
        }
    }

    private static void twelve() {
        CrossTables x = new CrossTables();
        for (int i = 0; i < 12; i++) {
            int number = i;
            Check.answers("section " + i, i, () -> x.section(number % 2, number, -1));
        }
        for (int i = 0; i < 12; i++) {
            int number = i;
            Check.answers("a byte of section " + i, 1, () -> x.add(number, (byte) number));
            Check.answers("octet(" + i + ", 0)", i, () -> x.octet(number, 0));
            Check.answers("its keys", 0, () -> x.key(number, 9, number));
            Check.answers("read(" + i + ")", 0, () -> x.read(number));
            Check.answers("trailer(9)", number, () -> x.trailer(9));
        }
    }

    private static void thirteenth() {
        for (int k = 0; k < 2; k++) {
            int kind = k;
            Twins.refuse("section(" + kind + ", 1, -1)", FULL, States::full, x -> x.section(kind, 1, -1));
        }
        CrossTables x = States.full();
        Check.refuses("the last place", FULL, () -> x.section(0, Maker.LAST, 0));
        Check.answers("none is at the place of a refused one", -1, () -> x.read(Maker.LAST));
    }

    private static void firstNamed() {
        Twins.refuse("a kind of -1 when there are 12", ARGUMENT, States::full, x -> x.section(-1, 1, -1));
        Twins.refuse("a kind of 2 when there are 12", ARGUMENT, States::full, x -> x.section(2, 1, -1));
        Twins.refuse("place -1 when there are 12", ARGUMENT, States::full, x -> x.section(0, -1, -1));
        Twins.refuse("place too large when there are 12", ARGUMENT, States::full, x -> x.section(0, Maker.LAST + 1, -1));
        Twins.refuse("the first one's place when there are 12", ARGUMENT, States::full, x -> x.section(0, 100, -1));
        Twins.refuse("the last one's place when there are 12", ARGUMENT, States::full, x -> x.section(0, 1200, -1));
        Twins.refuse("before -2 when there are 12", ARGUMENT, States::full, x -> x.section(0, 1, -2));
        Twins.refuse("before too large when there are 12", ARGUMENT, States::full, x -> x.section(0, 1, Maker.LAST + 1));
    }
}
