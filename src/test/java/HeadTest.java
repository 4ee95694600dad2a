/** Promise 9: head; and of the terms HEADS (60 at most). */
public final class HeadTest {
    private static final Class<IllegalArgumentException> ARGUMENT = IllegalArgumentException.class;
    private static final Class<UnsupportedOperationException> FULL = UnsupportedOperationException.class;

    public static void main(String[] args) {
        Check.sentence("A head stands at a place: how many there are", HeadTest::howMany);
        Check.sentence("(in place of another one", HeadTest::inPlaceOfAnother);
        Check.sentence("heads at places that differ by 2 to the 32 are two", HeadTest::placesThatWrapAround);
        Check.sentence("place 0 .. 9999999999", HeadTest::firstAndLastPlace);
        Check.sentence("IllegalArgumentException when place is not 0 .. 9999999999", HeadTest::placesBeyond);
        Check.sentence("object 0 .. 99", HeadTest::firstAndLastObject);
        Check.sentence("IllegalArgumentException when object is not 0 .. 99", HeadTest::objectsBeyond);
        Check.sentence("generation 0 .. 99999", HeadTest::firstAndLastGeneration);
        Check.sentence("IllegalArgumentException when generation is not 0 .. 99999", HeadTest::generationsBeyond);
        Check.sentence("HEADS (60 at most)", HeadTest::sixty);
        Check.sentence("also when there are 60)", HeadTest::inPlaceOfAnotherOfSixty);
        Check.sentence("UnsupportedOperationException when there are 60", HeadTest::oneMore);
        Check.sentence("it is the one that it names first", HeadTest::firstNamed);
        Check.end();
    }

    private static void refuse(long place, int object, int generation) {
        Twins.refuse("head(" + place + ", " + object + ", " + generation + ")", ARGUMENT, States::some,
                x -> x.head(place, object, generation));
    }

    /** Looks whether the head of an object that is used is found. */
    private static void found(String what, CrossTables x, int object, long place, int generation) {
        int section = Maker.table(x, 77, -1, object + " 1\n" + Maker.row(place, generation, 'n'));
        Check.answers(what + ": one counts", 1, () -> x.read(77));
        Maker.counts(what + ", section " + section, x, object, 2, place, generation);
    }

    private static void howMany() {
        CrossTables x = new CrossTables();
        Check.answers("the first", 1, () -> x.head(50, 1, 2));
        Check.answers("the same object again", 2, () -> x.head(51, 1, 2));
        Check.answers("the third", 3, () -> x.head(49, 1, 2));
    }

    private static void inPlaceOfAnother() {
        CrossTables x = new CrossTables();
        x.head(50, 1, 2);
        x.head(60, 5, 5);
        Maker.table(x, 9, -1, "1 1\n" + Maker.row(50, 2, 'n'));
        x.read(9);
        Maker.counts("the first one", x, 1, 2, 50, 2);
        Check.answers("another generation", 2, () -> x.head(50, 1, 3));
        x.read(9);
        Maker.counts("another generation", x, 1, 4, 50, 2);
        Check.answers("another object", 2, () -> x.head(50, 2, 2));
        x.read(9);
        Maker.counts("another object", x, 1, 4, 50, 2);
        Check.answers("the first one again", 2, () -> x.head(50, 1, 2));
        x.read(9);
        Maker.counts("the first one again", x, 1, 2, 50, 2);
    }

    private static void placesThatWrapAround() {
        CrossTables x = new CrossTables();
        Check.answers("the first", 1, () -> x.head(50, 1, 2));
        Check.answers("the second", 2, () -> x.head(50 + (1L << 32), 1, 3));
        Check.answers("the third", 3, () -> x.head(50 + (2L << 32), 1, 4));
        found("50", x, 1, 50, 2);
    }

    private static void firstAndLastPlace() {
        CrossTables x = new CrossTables();
        Check.answers("place 0", 1, () -> x.head(0, 1, 2));
        Check.answers("place 9999999999", 2, () -> x.head(Maker.LAST, 1, 2));
        found("place 9999999999", x, 1, Maker.LAST, 2);
        CrossTables y = new CrossTables();
        y.head(0, 1, 2);
        found("place 0", y, 1, 0, 2);
    }

    private static void placesBeyond() {
        for (long place : new long[] {-1, Maker.LAST + 1, 3L << 32, Long.MIN_VALUE, Long.MAX_VALUE}) {
            refuse(place, 1, 1);
        }
    }

    private static void firstAndLastObject() {
        for (int object : new int[] {0, 99}) {
            CrossTables x = new CrossTables();
            Check.answers("object " + object, 1, () -> x.head(5, object, 2));
            found("object " + object, x, object, 5, 2);
        }
    }

    private static void objectsBeyond() {
        for (int object : new int[] {-1, 100, 256, Integer.MIN_VALUE, Integer.MAX_VALUE}) {
            refuse(5, object, 1);
            refuse(17, object, 0);
        }
    }

    private static void firstAndLastGeneration() {
        for (int generation : new int[] {0, 65536, 99999}) {
            CrossTables x = new CrossTables();
            Check.answers("generation " + generation, 1, () -> x.head(5, 1, generation));
            found("generation " + generation, x, 1, 5, generation);
        }
    }

    private static void generationsBeyond() {
        for (int generation : new int[] {-1, 100000, 1 << 17, Integer.MIN_VALUE, Integer.MAX_VALUE}) {
            refuse(5, 1, generation);
            refuse(17, 1, generation);
        }
    }

    private static void sixty() {
        CrossTables x = new CrossTables();
        for (int i = 0; i < 60; i++) {
            int number = i;
            Check.answers("head " + i, i + 1, () -> x.head(number * 3, number, 1));
        }
        Maker.table(x, 9, -1, "0 1\n" + Maker.row(0, 1, 'n') + "58 2\n" + Maker.row(174, 1, 'n') + Maker.row(177, 1, 'n'));
        x.read(9);
        Maker.counts("the first", x, 0, 2, 0, 1);
        Maker.counts("the fifty-ninth", x, 58, 2, 174, 1);
        Maker.counts("the sixtieth", x, 59, 2, 177, 1);
    }

    private static void inPlaceOfAnotherOfSixty() {
        for (long place : new long[] {0, 300, 590}) {
            CrossTables x = States.full();
            Check.answers("in place of that at " + place, 60, () -> x.head(place, 70, 7));
            Check.refuses("still no other", FULL, () -> x.head(1, 1, 1));
            x.add(2, (byte) '7');
            for (char c : ("0 1\n" + Maker.row(place, 7, 'n')).toCharArray()) {
                x.add(2, (byte) c);
            }
            x.read(300);
            Maker.counts("in place of that at " + place, x, 70, 2, place, 7);
        }
    }

    private static void oneMore() {
        for (long place : new long[] {1, 9, 589, 591, 600, Maker.LAST}) {
            Twins.refuse("head(" + place + ", 1, 1)", FULL, States::full, x -> x.head(place, 1, 1));
        }
        Twins.refuse("a place that differs by 2^32", FULL, States::full, x -> x.head(10 + (1L << 32), 1, 1));
    }

    private static void firstNamed() {
        Twins.refuse("place -1 when there are 60", ARGUMENT, States::full, x -> x.head(-1, 1, 1));
        Twins.refuse("place too large when there are 60", ARGUMENT, States::full, x -> x.head(Maker.LAST + 1, 1, 1));
        Twins.refuse("object -1 when there are 60", ARGUMENT, States::full, x -> x.head(1, -1, 1));
        Twins.refuse("object 100 when there are 60", ARGUMENT, States::full, x -> x.head(1, 100, 1));
        Twins.refuse("generation -1 when there are 60", ARGUMENT, States::full, x -> x.head(1, 1, -1));
        Twins.refuse("generation 100000 when there are 60", ARGUMENT, States::full, x -> x.head(1, 1, 100000));
        Twins.refuse("object 100 in place of another", ARGUMENT, States::full, x -> x.head(10, 100, 1));
    }
}
