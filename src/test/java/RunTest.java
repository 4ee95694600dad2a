import java.util.NoSuchElementException;

/** Promise 7: run; and of the terms RUNS (6 at most). */
public final class RunTest {
    private static final Class<IllegalArgumentException> ARGUMENT = IllegalArgumentException.class;
    private static final Class<NoSuchElementException> NONE = NoSuchElementException.class;

    public static void main(String[] args) {
        Check.sentence("A run of a stream: how many it has", RunTest::howManyItHas);
        Check.sentence("NoSuchElementException", RunTest::noSuchSection);
        Check.sentence("IllegalArgumentException when it is a table", RunTest::table);
        Check.sentence("first 0 .. 999", RunTest::firstAndLast);
        Check.sentence("IllegalArgumentException when first is not 0 .. 999", RunTest::firstsBeyond);
        Check.sentence("many 1 .. 100", RunTest::oneAndHundred);
        Check.sentence("IllegalArgumentException when many is not 1 .. 100", RunTest::maniesBeyond);
        Check.sentence("RUNS (6 at most)", RunTest::six);
        Check.sentence("UnsupportedOperationException when it has 6", RunTest::seventh);
        Check.sentence("it is the one that it names first", RunTest::firstNamed);
        Check.end();
    }

    private static void howManyItHas() {
        CrossTables x = new CrossTables();
        x.section(1, 10, -1);
        x.section(1, 20, -1);
        Check.answers("the first of 0", 1, () -> x.run(0, 5, 5));
        Check.answers("the same again", 2, () -> x.run(0, 5, 5));
        Check.answers("the first of 1", 1, () -> x.run(1, 5, 5));
        Check.answers("the third of 0", 3, () -> x.run(0, 9, 1));
    }

    private static void noSuchSection() {
        Twins.refuse("run(0, 0, 1) of a new object", NONE, States::fresh, x -> x.run(0, 0, 1));
        for (int section : new int[] {-1, 3, 12, 256, Integer.MIN_VALUE, Integer.MAX_VALUE}) {
            Twins.refuse("run(" + section + ", 0, 1)", NONE, States::some, x -> x.run(section, 0, 1));
        }
        Twins.refuse("run(12, 0, 1)", NONE, States::full, x -> x.run(12, 0, 1));
        Check.answers("run(11, 0, 1)", 1, () -> States.full().run(11, 0, 1));
    }

    private static void table() {
        Twins.refuse("run(0, 0, 1)", ARGUMENT, States::some, x -> x.run(0, 0, 1));
        Twins.refuse("run(2, 999, 100)", ARGUMENT, States::some, x -> x.run(2, 999, 100));
    }

    /** A stream without widths: each object of a run is used, at place 0. */
    private static CrossTables bare() {
        CrossTables x = new CrossTables();
        x.section(1, 10, -1);
        x.widths(0, 0, 0, 0);
        return x;
    }

    private static void firstAndLast() {
        CrossTables x = bare();
        Check.answers("first 0", 1, () -> x.run(0, 0, 1));
        Check.answers("object 0", 1, () -> x.read(10));
        Maker.counts("object 0", x, 0, 4, 0, 0);
        Check.answers("first 99", 2, () -> x.run(0, 99, 1));
        Check.answers("object 99, too", 2, () -> x.read(10));
        Maker.counts("object 99", x, 99, 4, 0, 0);
        Check.answers("first 100", 3, () -> x.run(0, 100, 1));
        Check.answers("first 999", 4, () -> x.run(0, 999, 1));
        Check.answers("those above tell nothing", 2, () -> x.read(10));
    }

    private static void firstsBeyond() {
        for (int first : new int[] {-1, 1000, 1 << 16, Integer.MIN_VALUE, Integer.MAX_VALUE}) {
            Twins.refuse("run(1, " + first + ", 1)", ARGUMENT, States::some, x -> x.run(1, first, 1));
            Twins.refuse("run(1, " + first + ", 100)", ARGUMENT, States::some, x -> x.run(1, first, 100));
        }
    }

    private static void oneAndHundred() {
        CrossTables x = bare();
        Check.answers("one", 1, () -> x.run(0, 50, 1));
        Check.answers("one object", 1, () -> x.read(10));
        Maker.nothingCounts("not the one before", x, 49);
        Maker.nothingCounts("not the one behind", x, 51);
        Check.answers("a hundred", 2, () -> x.run(0, 0, 100));
        Check.answers("a hundred objects", 100, () -> x.read(10));
        Check.answers("the last ones", 3, () -> x.run(0, 999, 100));
        Check.answers("a hundred objects still", 100, () -> x.read(10));
    }

    private static void maniesBeyond() {
        for (int many : new int[] {0, -1, 101, 257, Integer.MIN_VALUE, Integer.MAX_VALUE}) {
            Twins.refuse("run(1, 0, " + many + ")", ARGUMENT, States::some, x -> x.run(1, 0, many));
            Twins.refuse("run(1, 999, " + many + ")", ARGUMENT, States::some, x -> x.run(1, 999, many));
        }
    }

    private static void six() {
        CrossTables x = new CrossTables();
        Maker.stream(x, 10, -1, 1, 2, 3, 4, 5, 6);
        x.widths(0, 0, 1, 0);
        for (int i = 0; i < 6; i++) {
            int number = i;
            Check.answers("run " + i, i + 1, () -> x.run(0, 10 * number, 1));
            Check.answers("all of them are read", i + 1, () -> x.read(10));
            Maker.counts("the last of them", x, 10 * i, 4, i + 1, 0);
        }
    }

    private static void seventh() {
        Twins.refuse("run(1, 0, 1)", UnsupportedOperationException.class, States::full, x -> x.run(1, 0, 1));
        Twins.refuse("run(1, 999, 100)", UnsupportedOperationException.class, States::full, x -> x.run(1, 999, 100));
        CrossTables x = States.full();
        Check.refuses("run(1, 1, 1)", UnsupportedOperationException.class, () -> x.run(1, 1, 1));
        Check.answers("another stream has room", 1, () -> x.run(3, 1, 1));
    }

    private static void firstNamed() {
        Twins.refuse("first -1 when it has 6", ARGUMENT, States::full, x -> x.run(1, -1, 1));
        Twins.refuse("first 1000 when it has 6", ARGUMENT, States::full, x -> x.run(1, 1000, 1));
        Twins.refuse("many 0 when it has 6", ARGUMENT, States::full, x -> x.run(1, 0, 0));
        Twins.refuse("many 101 when it has 6", ARGUMENT, States::full, x -> x.run(1, 0, 101));
        Twins.refuse("no section 3, and first -1", NONE, States::some, x -> x.run(3, -1, 1));
        Twins.refuse("no section -1, and many 0", NONE, States::some, x -> x.run(-1, 0, 0));
    }
}
