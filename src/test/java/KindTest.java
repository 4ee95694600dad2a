/** Promise 11: kind. */
public final class KindTest {
    public static void main(String[] args) {
        Check.sentence("0 nothing COUNTS, 1 FREE, 2 USED, 3 WITHIN, 4 WRONG", KindTest::allKinds);
        Check.sentence("What an object is by the latest reading", KindTest::latestReading);
        Check.sentence("OBJECTS are 0 .. 99", KindTest::firstAndLast);
        Check.sentence("IndexOutOfBoundsException", KindTest::objectsBeyond);
        Check.end();
    }

    private static void allKinds() {
        CrossTables x = new CrossTables();
        Maker.stream(x, 10, -1, 3, 0, 0, 0, 0, 0, 0, 0, 1, 0, 5, 0, 2, 0, 0, 0, 1, 0, 6, 0);
        x.run(0, 0, 5);
        x.head(5, 2, 0);
        x.read(10);
        for (int i = 0; i < 5; i++) {
            int kind = i;
            Check.answers("kind(" + kind + ")", kind, () -> x.kind(kind));
        }
        Check.answers("kind(5)", 0, () -> x.kind(5));
    }

    private static void latestReading() {
        CrossTables x = new CrossTables();
        Maker.table(x, 10, -1, "1 1\n" + Maker.row(50, 0, 'n'));
        Maker.table(x, 20, -1, "2 1\n" + Maker.row(60, 0, 'n'));
        Check.answers("before a reading", 0, () -> x.kind(1));
        x.read(10);
        Check.answers("the first reading", 4, () -> x.kind(1));
        x.head(50, 1, 0);
        Check.answers("a head that came later", 4, () -> x.kind(1));
        x.read(10);
        Check.answers("the second reading", 2, () -> x.kind(1));
        x.head(50, 9, 0);
        Check.answers("a head that went later", 2, () -> x.kind(1));
        x.read(20);
        Check.answers("the third reading", 0, () -> x.kind(1));
        Check.answers("the third reading", 4, () -> x.kind(2));
        x.read(30);
        Check.answers("no section is there", 0, () -> x.kind(2));
    }

    private static void firstAndLast() {
        CrossTables x = Maker.readTable("0 1\n" + Maker.row(0, 0, 'f') + "99 1\n" + Maker.row(0, 0, 'n'));
        Check.answers("kind(0)", 1, () -> x.kind(0));
        Check.answers("kind(99)", 4, () -> x.kind(99));
        Check.answers("kind(98)", 0, () -> x.kind(98));
    }

    private static void objectsBeyond() {
        for (int object : new int[] {-1, 100, 256, Integer.MIN_VALUE, Integer.MAX_VALUE}) {
            Twins.refuse("kind(" + object + ")", IndexOutOfBoundsException.class, States::some, x -> x.kind(object));
            Twins.refuse("kind(" + object + "), nothing is read", IndexOutOfBoundsException.class, States::fresh,
                    x -> x.kind(object));
        }
    }
}
