/** Promise 16: trailer. */
public final class TrailerTest {
    public static void main(String[] args) {
        Check.sentence("The section, the first in THE CHAIN, that has a value of a key", TrailerTest::theFirst);
        Check.sentence("what is beside comes before what is before", TrailerTest::beside);
        Check.sentence("a section that is not gone to has none", TrailerTest::notGoneTo);
        Check.sentence("a value of 0 is one", TrailerTest::zeroIsOne);
        Check.sentence("-1 when none has", TrailerTest::noneHas);
        Check.sentence("-1 when nothing is read", TrailerTest::nothingIsRead);
        Check.sentence("all twelve sections, in the order of the chain", TrailerTest::twelve);
        Check.sentence("a value that came behind the reading", TrailerTest::laterValue);
        Check.sentence("keys 0 .. 9", TrailerTest::firstAndLast);
        Check.sentence("IllegalArgumentException when key is not 0 .. 9", TrailerTest::keysBeyond);
        Check.end();
    }

    /** Section 2 at 30 has the stream 1 beside it and 0 before it; what is before the stream is no part of the chain. */
    private static CrossTables chain() {
        CrossTables x = new CrossTables();
        x.section(0, 10, -1);
        x.section(1, 20, 40);
        x.section(0, 30, 10);
        x.section(0, 40, -1);
        x.beside(2, 20);
        return x;
    }

    private static void trailer(String what, CrossTables x, int key, int want) {
        Check.answers(what + ": trailer(" + key + ")", want, () -> x.trailer(key));
    }

    private static void theFirst() {
        CrossTables x = chain();
        x.key(0, 5, 1);
        x.key(2, 5, 1);
        x.key(0, 6, 1);
        x.read(30);
        trailer("both have one", x, 5, 2);
        trailer("the older one has one", x, 6, 0);
        x.read(10);
        trailer("another chain", x, 5, 0);
    }

    private static void beside() {
        CrossTables x = chain();
        x.key(0, 5, 1);
        x.key(1, 5, 1);
        x.key(2, 6, 1);
        x.key(1, 6, 1);
        x.read(30);
        trailer("beside, and before", x, 5, 1);
        trailer("itself, and beside", x, 6, 2);
    }

    private static void notGoneTo() {
        CrossTables x = chain();
        x.key(3, 5, 1);
        x.read(30);
        trailer("before what is beside", x, 5, -1);
        x.beside(2, 40);
        x.read(30);
        trailer("a table beside", x, 5, -1);
        x.read(40);
        trailer("itself", x, 5, 3);
    }

    private static void zeroIsOne() {
        CrossTables x = chain();
        x.key(2, 5, 0);
        x.key(0, 5, 9);
        x.read(30);
        trailer("a value of 0", x, 5, 2);
    }

    private static void noneHas() {
        CrossTables x = chain();
        x.key(2, 5, 0);
        x.read(30);
        for (int key = 0; key < 10; key++) {
            trailer("only 5", x, key, key == 5 ? 2 : -1);
        }
    }

    private static void nothingIsRead() {
        CrossTables x = chain();
        x.key(2, 5, 0);
        trailer("before a reading", x, 5, -1);
        x.read(30);
        x.read(31);
        trailer("no section is there", x, 5, -1);
        trailer("a new object", new CrossTables(), 0, -1);
    }

    private static void twelve() {
        CrossTables x = new CrossTables();
        for (int i = 0; i < 12; i++) {
            x.section(i % 2, i, i == 0 ? -1 : i - 1);
        }
        x.read(11);
        for (int i = 0; i < 12; i++) {
            x.key(i, 9, 1);
            trailer("up to " + i, x, 9, i);
        }
    }

    private static void laterValue() {
        CrossTables x = chain();
        x.read(30);
        x.key(0, 5, 1);
        trailer("the older one", x, 5, 0);
        x.key(2, 5, 1);
        trailer("the newer one", x, 5, 2);
    }

    private static void firstAndLast() {
        CrossTables x = chain();
        x.key(2, 0, 1);
        x.key(0, 9, 1);
        x.read(30);
        trailer("the first key", x, 0, 2);
        trailer("the last key", x, 9, 0);
    }

    private static void keysBeyond() {
        for (int key : new int[] {-1, 10, 256, Integer.MIN_VALUE, Integer.MAX_VALUE}) {
            Twins.refuse("trailer(" + key + ")", IllegalArgumentException.class, States::some, x -> x.trailer(key));
            Twins.refuse("trailer(" + key + ") of a new object", IllegalArgumentException.class, States::fresh,
                    x -> x.trailer(key));
        }
    }
}
