/** Promise 13: revision. */
public final class RevisionTest {
    private static final Class<IndexOutOfBoundsException> INDEX = IndexOutOfBoundsException.class;

    public static void main(String[] args) {
        Check.sentence("The i-th section in THE CHAIN with a ROW that tells of an object", RevisionTest::inTheChain);
        Check.sentence("a section with two ROWS is one", RevisionTest::oneSection);
        Check.sentence("a ROW that tells nothing is none", RevisionTest::tellsNothing);
        Check.sentence("-1 when there is none such", RevisionTest::noneSuch);
        Check.sentence("i = -1: how many", RevisionTest::howMany);
        Check.sentence("OBJECTS are 0 .. 99", RevisionTest::firstAndLast);
        Check.sentence("IndexOutOfBoundsException (object", RevisionTest::objectsBeyond);
        Check.sentence("or i below -1)", RevisionTest::indicesBeyond);
        Check.end();
    }

    private static void inTheChain() {
        CrossTables x = new CrossTables();
        Maker.table(x, 10, -1, "1 2\n" + Maker.row(0, 1, 'f') + Maker.row(0, 1, 'f'));
        Maker.stream(x, 20, -1, 0, 0, 0, 2, 1, 0, 0, 2, 2, 0, 0, 2);
        x.run(1, 1, 3);
        Maker.table(x, 30, 10, "2 1\n" + Maker.row(0, 3, 'f'));
        x.beside(2, 20);
        Maker.table(x, 40, 30, "");
        Maker.table(x, 50, 40, "2 1\n" + Maker.row(0, 3, 'n'));
        x.read(50);
        Maker.revisions("1", x, 1, 1, 0);
        Maker.revisions("2", x, 2, 4, 2, 1, 0);
        Maker.revisions("3", x, 3, 1);
        Maker.revisions("4", x, 4);
        x.read(30);
        Maker.revisions("2, another chain", x, 2, 2, 1, 0);
    }

    private static void oneSection() {
        String row = "5 1\n" + Maker.row(0, 1, 'f');
        Maker.revisions("three rows", Maker.readTable(row + row + row), 5, 0);
    }

    private static void tellsNothing() {
        CrossTables x = new CrossTables();
        Maker.table(x, 10, -1, "5 1\n" + Maker.row(0, 1, 'f'));
        Maker.stream(x, 20, 10, 3, 0, 0, 0, 0, 0);
        x.run(1, 5, 2);
        Maker.table(x, 30, 20, "105 1\n" + Maker.row(0, 1, 'f') + "5 1 0 0 x");
        x.read(30);
        Maker.revisions("a first of 3, an object above, and no row", x, 5, 0);
        Maker.revisions("a row past", x, 6);
    }

    private static void noneSuch() {
        CrossTables x = Maker.readTable("5 1\n" + Maker.row(0, 1, 'f'));
        Check.answers("revision(5, 0)", 0, () -> x.revision(5, 0));
        for (int i : new int[] {1, 2, 11, 12, 31, 32, 33, 64, 256, Integer.MAX_VALUE}) {
            Check.answers("revision(5, " + i + ")", -1, () -> x.revision(5, i));
            Check.answers("revision(6, " + i + ")", -1, () -> x.revision(6, i));
        }
        Check.answers("revision(6, 0)", -1, () -> x.revision(6, 0));
        Check.answers("nothing is read", -1, () -> new CrossTables().revision(5, 0));
    }

    private static void howMany() {
        CrossTables x = new CrossTables();
        for (int i = 0; i < 12; i++) {
            Maker.table(x, i, i == 0 ? -1 : i - 1, "5 1\n" + Maker.row(0, 1, 'f'));
        }
        Check.answers("nothing is read", 0, () -> x.revision(5, -1));
        for (int i = 0; i < 12; i++) {
            x.read(i);
            Check.answers("from " + i + " on", i + 1, () -> x.revision(5, -1));
        }
        Check.answers("the first of twelve", 11, () -> x.revision(5, 0));
        Check.answers("the last of twelve", 0, () -> x.revision(5, 11));
        Check.answers("none behind it", -1, () -> x.revision(5, 12));
        Check.answers("of another object", 0, () -> x.revision(4, -1));
    }

    private static void firstAndLast() {
        CrossTables x = Maker.readTable("0 1\n" + Maker.row(0, 1, 'f') + "99 1\n" + Maker.row(0, 1, 'f'));
        Maker.revisions("0", x, 0, 0);
        Maker.revisions("99", x, 99, 0);
        Maker.revisions("98", x, 98);
    }

    private static void objectsBeyond() {
        for (int object : new int[] {-1, 100, 256, Integer.MIN_VALUE, Integer.MAX_VALUE}) {
            for (int i = -2; i <= 1; i++) {
                int asked = i;
                Twins.refuse("revision(" + object + ", " + i + ")", INDEX, States::some, x -> x.revision(object, asked));
            }
            Twins.refuse("revision(" + object + ", -1), nothing is read", INDEX, States::fresh, x -> x.revision(object, -1));
        }
    }

    private static void indicesBeyond() {
        for (int i : new int[] {-2, -3, Integer.MIN_VALUE}) {
            Twins.refuse("revision(0, " + i + ")", INDEX, States::some, x -> x.revision(0, i));
            Twins.refuse("revision(99, " + i + ")", INDEX, States::some, x -> x.revision(99, i));
            Twins.refuse("revision(0, " + i + "), nothing is read", INDEX, States::fresh, x -> x.revision(0, i));
        }
    }
}
