import java.util.NoSuchElementException;

/** Promise 6: widths. */
public final class WidthsTest {
    private static final Class<IllegalArgumentException> ARGUMENT = IllegalArgumentException.class;

    public static void main(String[] args) {
        Check.sentence("WIDTHS a, b, c (0 .. 4 each; at first 1, 2, 1)", WidthsTest::atFirst);
        Check.sentence("how many bytes a row has then", WidthsTest::howManyBytes);
        Check.sentence("The widths of a stream", WidthsTest::asSet);
        Check.sentence("the widths of one stream are not those of another", WidthsTest::ofOneStream);
        Check.sentence("NoSuchElementException", WidthsTest::noSuchSection);
        Check.sentence("IllegalArgumentException when it is a table", WidthsTest::table);
        Check.sentence("IllegalArgumentException when one is not 0 .. 4", WidthsTest::widthsBeyond);
        Check.sentence("it is the one that it names first", WidthsTest::firstNamed);
        Check.end();
    }

    private static CrossTables stream() {
        CrossTables x = new CrossTables();
        Maker.stream(x, 10, -1, 1, 2, 3, 4, 5, 6, 7, 8, 9, 10, 11, 12);
        x.run(0, 7, 1);
        return x;
    }

    private static void atFirst() {
        CrossTables x = stream();
        x.read(10);
        Maker.counts("1, 2, 1", x, 7, 4, 0x0203, 4);
    }

    /** All hundred and twenty-five of them. */
    private static void howManyBytes() {
        CrossTables x = new CrossTables();
        x.section(1, 10, -1);
        for (int i = 0; i < 125; i++) {
            int a = i / 25;
            int b = i / 5 % 5;
            int c = i % 5;
            Check.answers("widths(0, " + a + ", " + b + ", " + c + ")", a + b + c, () -> x.widths(0, a, b, c));
        }
    }

    private static void asSet() {
        CrossTables x = stream();
        x.widths(0, 1, 4, 4);
        x.read(10);
        Maker.counts("1, 4, 4", x, 7, 4, 0x02030405L, 0x06070809L);
        x.widths(0, 0, 3, 1);
        x.read(10);
        Maker.counts("0, 3, 1", x, 7, 4, 0x010203, 4);
        x.widths(0, 1, 1, 3);
        Maker.counts("what was read is not changed", x, 7, 4, 0x010203, 4);
        x.read(10);
        Maker.counts("1, 1, 3", x, 7, 4, 2, 0x030405);
    }

    private static void ofOneStream() {
        CrossTables x = stream();
        Maker.stream(x, 20, 10, 1, 2, 3, 4);
        x.run(1, 8, 1);
        x.widths(1, 1, 1, 1);
        x.read(20);
        Maker.counts("1, 2, 1", x, 7, 4, 0x0203, 4);
        Maker.counts("1, 1, 1", x, 8, 4, 2, 3);
    }

    private static void noSuchSection() {
        Class<NoSuchElementException> none = NoSuchElementException.class;
        Twins.refuse("widths(0, 1, 1, 1) of a new object", none, States::fresh, x -> x.widths(0, 1, 1, 1));
        for (int section : new int[] {-1, 3, 12, 256, Integer.MIN_VALUE, Integer.MAX_VALUE}) {
            Twins.refuse("widths(" + section + ", 1, 1, 1)", none, States::some, x -> x.widths(section, 1, 1, 1));
        }
        Twins.refuse("widths(12, 1, 1, 1)", none, States::full, x -> x.widths(12, 1, 1, 1));
        Check.answers("widths(11, 1, 1, 1)", 3, () -> States.full().widths(11, 1, 1, 1));
    }

    private static void table() {
        for (int section : new int[] {0, 2}) {
            Twins.refuse("widths(" + section + ", 1, 2, 1)", ARGUMENT, States::some, x -> x.widths(section, 1, 2, 1));
            Twins.refuse("widths(" + section + ", 0, 0, 0)", ARGUMENT, States::some, x -> x.widths(section, 0, 0, 0));
        }
    }

    private static void widthsBeyond() {
        for (int wrong : new int[] {-1, 5, 256, 260, Integer.MIN_VALUE, Integer.MAX_VALUE}) {
            Twins.refuse("a = " + wrong, ARGUMENT, States::some, x -> x.widths(1, wrong, 1, 0));
            Twins.refuse("b = " + wrong, ARGUMENT, States::some, x -> x.widths(1, 0, wrong, 0));
            Twins.refuse("c = " + wrong, ARGUMENT, States::some, x -> x.widths(1, 0, 1, wrong));
        }
        Twins.refuse("all 5", ARGUMENT, States::some, x -> x.widths(1, 5, 5, 5));
        Twins.refuse("5 and -1", ARGUMENT, States::some, x -> x.widths(1, 5, -1, 0));
    }

    private static void firstNamed() {
        Class<NoSuchElementException> none = NoSuchElementException.class;
        Twins.refuse("no section 3, and a = 5", none, States::some, x -> x.widths(3, 5, 1, 1));
        Twins.refuse("no section -1, and b = -1", none, States::some, x -> x.widths(-1, 1, -1, 1));
        Twins.refuse("no section 12, and c = 5", none, States::full, x -> x.widths(12, 1, 1, 5));
    }
}
