import java.util.NoSuchElementException;

/** Promise 3: add; and of the terms BYTES (300 at most). */
public final class AddTest {
    public static void main(String[] args) {
        Check.sentence("A byte behind a section's", AddTest::behindTheOthers);
        Check.sentence("how many it has", AddTest::howManyItHas);
        Check.sentence("NoSuchElementException", AddTest::noSuchSection);
        Check.sentence("BYTES (300 at most)", AddTest::threeHundred);
        Check.sentence("UnsupportedOperationException when it has 300", AddTest::oneMore);
        Check.sentence("of a table with 300 bytes, all are read", AddTest::fullTable);
        Check.sentence("of a stream with 300 bytes, all are read", AddTest::fullStream);
        Check.end();
    }

    private static void behindTheOthers() {
        CrossTables x = new CrossTables();
        x.section(1, 10, -1);
        int[] bytes = {0, -128, 127, -1, 1, 0};
        for (int b : bytes) {
            x.add(0, (byte) b);
        }
        for (int i = 0; i < bytes.length; i++) {
            int asked = i;
            Check.answers("octet(0, " + i + ")", bytes[i], () -> x.octet(0, asked));
        }
    }

    private static void howManyItHas() {
        CrossTables x = new CrossTables();
        x.section(0, 10, -1);
        x.section(1, 20, -1);
        Check.answers("the first of 0", 1, () -> x.add(0, (byte) 1));
        Check.answers("the second of 0", 2, () -> x.add(0, (byte) 1));
        Check.answers("the first of 1", 1, () -> x.add(1, (byte) 1));
        Check.answers("the third of 0", 3, () -> x.add(0, (byte) 1));
        Check.answers("the second of 1", 2, () -> x.add(1, (byte) 1));
    }

    private static void noSuchSection() {
        Twins.refuse("add(0) of a new object", NoSuchElementException.class, States::fresh, x -> x.add(0, (byte) 1));
        for (int section : new int[] {-1, 3, 12, 256, Integer.MIN_VALUE, Integer.MAX_VALUE}) {
            Twins.refuse("add(" + section + ")", NoSuchElementException.class, States::some, x -> x.add(section, (byte) 1));
        }
        Twins.refuse("add(12) of a full object", NoSuchElementException.class, States::full, x -> x.add(12, (byte) 1));
    }

    private static void threeHundred() {
        CrossTables x = new CrossTables();
        x.section(0, 10, -1);
        for (int i = 0; i < 300; i++) {
            byte b = (byte) (i * 7);
            Check.answers("byte " + i, i + 1, () -> x.add(0, b));
        }
        for (int i = 0; i < 300; i += i < 10 || i > 290 ? 1 : 7) {
            int asked = i;
            Check.answers("octet(0, " + i + ")", (byte) (i * 7), () -> x.octet(0, asked));
        }
    }

    private static void oneMore() {
        for (byte b : new byte[] {0, 1, 32}) {
            Twins.refuse("a byte " + b + " more", UnsupportedOperationException.class, States::full, x -> x.add(0, b));
        }
        CrossTables x = States.full();
        Check.refuses("a byte more", UnsupportedOperationException.class, () -> x.add(0, (byte) 1));
        Check.refuses("and again", UnsupportedOperationException.class, () -> x.add(0, (byte) 1));
        Check.answers("another section has room", 10, () -> x.add(1, (byte) 1));
        CrossTables stream = new CrossTables();
        Maker.stream(stream, 10, -1, new int[300]);
        Check.refuses("of a stream", UnsupportedOperationException.class, () -> stream.add(0, (byte) 1));
    }

    private static void fullTable() {
        String row = "0 0 f";
        CrossTables x = Maker.readTable(" ".repeat(291) + "9 1 " + row);
        Maker.counts("the last byte is a token", x, 9, 1, 0, 0);
        Maker.told("the end is behind 300 bytes", x, 3, 0, 295);
        Maker.told("the last byte is wrong", Maker.readTable(" ".repeat(299) + "x"), 4, 0, 299);
        Maker.told("the end at 300", Maker.readTable(" ".repeat(299) + "7"), 4, 0, 300);
        Maker.told("150 tokens", Maker.readTable("0 ".repeat(150)));
        Maker.told("one token", Maker.readTable("7".repeat(300)), 4, 0, 0);
    }

    private static void fullStream() {
        CrossTables x = new CrossTables();
        int[] bytes = new int[300];
        bytes[299] = 77;
        Maker.stream(x, 10, -1, bytes);
        x.widths(0, 1, 1, 1);
        x.run(0, 0, 100);
        Check.answers("a hundred rows of three bytes", 100, () -> x.read(10));
        Maker.counts("the last byte", x, 99, 1, 0, 77);
        Maker.told("none is past", x);
        x.run(0, 0, 1);
        x.read(10);
        Maker.told("one row more is past", x, 5, 0, 100);
    }
}
