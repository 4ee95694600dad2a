/** Promise 14: told; and of the terms, what is TOLD, and in what order. */
public final class ToldTest {
    private static final Class<IndexOutOfBoundsException> INDEX = IndexOutOfBoundsException.class;

    public static void main(String[] args) {
        Check.sentence("1 a RING (the SECTION whose it is; the place)", ToldTest::ring);
        Check.sentence("2 NOWHERE (likewise)", ToldTest::nowhere);
        Check.sentence("3 an ODD ROW (the SECTION; where it begins)", ToldTest::oddRow);
        Check.sentence("4 what is wrong in a TABLE (the SECTION; where the TOKEN begins", ToldTest::wrongToken);
        Check.sentence("or how many bytes it has)", ToldTest::wrongEnd);
        Check.sentence("5 a ROW PAST (the SECTION; how many ROWS were read before)", ToldTest::rowPast);
        Check.sentence("6 a FREE one of which there is a HEAD (the object", ToldTest::freeWithHead);
        Check.sentence("6 a FREE one (but 0)", ToldTest::notOfZero);
        Check.sentence("the least such place)", ToldTest::leastPlace);
        Check.sentence("7 a WRONG one (the object; its place)", ToldTest::wrongOne);
        Check.sentence("of a SECTION first what it has BESIDE, then what is wrong in its ROWS", ToldTest::besideThenRows);
        Check.sentence("of what it has BEFORE that is not gone to at last", ToldTest::beforeAtLast);
        Check.sentence("as THE CHAIN is gone along", ToldTest::alongTheChain);
        Check.sentence("Then by objects", ToldTest::byObjects);
        Check.sentence("200 at most are kept: 199, and 200", ToldTest::twoHundred);
        Check.sentence("200 at most are kept: of 201 the first ones", ToldTest::oneMore);
        Check.sentence("i = -1: how many, whatever what is", ToldTest::howMany);
        Check.sentence("IndexOutOfBoundsException (i", ToldTest::indicesBeyond);
        Check.sentence("another what)", ToldTest::whatsBeyond);
        Check.end();
    }

    private static void ring() {
        CrossTables x = new CrossTables();
        x.section(0, Maker.LAST, -1);
        x.section(1, 5, 0);
        x.section(0, 0, 5);
        x.read(0);
        Maker.told("before", x, 1, 1, 0);
        x.beside(2, 5);
        x.read(5);
        Maker.told("beside and before", x, 1, 2, 5, 1, 2, 5);
        CrossTables y = new CrossTables();
        y.section(0, Maker.LAST, Maker.LAST);
        y.read(Maker.LAST);
        Maker.told("the last place", y, 1, 0, Maker.LAST);
    }

    private static void nowhere() {
        CrossTables x = new CrossTables();
        x.section(0, 10, Maker.LAST);
        x.section(0, 20, 10);
        x.beside(1, 0);
        x.read(20);
        Maker.told("beside and before", x, 2, 1, 0, 2, 0, Maker.LAST);
    }

    private static void oddRow() {
        CrossTables x = new CrossTables();
        Maker.table(x, 10, -1, "0 2 1 2 f 3 4 f");
        Maker.table(x, 20, 10, "  0 1   1 2 f");
        x.read(20);
        Maker.told("where they begin", x, 3, 1, 8, 3, 0, 4, 3, 0, 10);
    }

    private static void wrongToken() {
        CrossTables x = new CrossTables();
        Maker.table(x, 10, -1, "x");
        Maker.table(x, 20, 10, "0 0   xyz");
        Maker.table(x, 30, 20, "0 1 " + Maker.row(0, 0, 'f') + "0 0 f");
        x.read(30);
        Maker.told("where they begin", x, 4, 2, 24, 4, 1, 6, 4, 0, 0);
    }

    private static void wrongEnd() {
        CrossTables x = new CrossTables();
        Maker.table(x, 10, -1, "7");
        Maker.table(x, 20, 10, "0 1  \n");
        Maker.table(x, 30, 20, "0 0 5 " + " ".repeat(294));
        x.read(30);
        Maker.told("how many bytes", x, 4, 2, 300, 4, 1, 6, 4, 0, 1);
    }

    private static void rowPast() {
        CrossTables x = new CrossTables();
        Maker.stream(x, 10, -1, 0, 0, 0, 0, 0, 0, 0, 0, 0);
        Maker.stream(x, 20, 10, 0);
        x.run(0, 5, 5);
        x.run(1, 5, 5);
        x.read(20);
        Maker.told("two streams", x, 5, 1, 0, 5, 0, 2);
    }

    private static CrossTables free(int object) {
        CrossTables x = new CrossTables();
        Maker.table(x, 10, -1, object + " 1\n" + Maker.row(0, 9, 'f'));
        return x;
    }

    private static void freeWithHead() {
        for (int object : new int[] {1, 2, 50, 98, 99}) {
            CrossTables x = free(object);
            x.read(10);
            Maker.told("no head", x);
            x.head(60, object - 1, 9);
            x.read(10);
            Maker.told("another one's head", x);
            x.head(70, object, 3);
            x.read(10);
            Maker.told("its head, whatever its generation", x, 6, object, 70);
            Maker.counts("it is free still", x, object, 1, 0, 9);
        }
    }

    private static void notOfZero() {
        CrossTables x = free(0);
        x.head(0, 0, 9);
        x.head(70, 0, 0);
        x.read(10);
        Maker.told("0", x);
        CrossTables used = Maker.readTable("0 1\n" + Maker.row(70, 0, 'n'));
        Maker.told("0 may be wrong, though", used, 7, 0, 70);
    }

    private static void leastPlace() {
        CrossTables x = free(5);
        long[] places = {4294967296L, 90, 80, 85, Maker.LAST, 1, 0};
        long[] least = {4294967296L, 90, 80, 80, 80, 1, 0};
        for (int i = 0; i < places.length; i++) {
            x.head(places[i], 5, i);
            x.head(places[i] + (places[i] == Maker.LAST ? -1 : 1000), 6, i);
            x.read(10);
            Maker.told("with a head at " + places[i], x, 6, 5, least[i]);
        }
        x.head(0, 6, 0);
        x.head(1, 7, 0);
        x.read(10);
        Maker.told("when the least ones are of others", x, 6, 5, 80);
    }

    private static void wrongOne() {
        CrossTables x = Maker.readTable("0 3\n" + Maker.row(0, 1, 'n') + Maker.row(Maker.LAST, 0, 'n') + Maker.row(5, 5, 'n'));
        Maker.told("three of them", x, 7, 0, 0, 7, 1, Maker.LAST, 7, 2, 5);
        x.head(Maker.LAST, 1, 0);
        x.read(10);
        Maker.told("two of them", x, 7, 0, 0, 7, 2, 5);
    }

    private static void besideThenRows() {
        CrossTables x = new CrossTables();
        Maker.table(x, 10, -1, "0 2 0 0 f x");
        x.beside(0, 99);
        x.read(10);
        Maker.told("nowhere, an odd row, a wrong token", x, 2, 0, 99, 3, 0, 4, 4, 0, 10);
        CrossTables y = new CrossTables();
        Maker.table(y, 10, -1, "x");
        Maker.stream(y, 20, 10, 0);
        y.run(1, 5, 1);
        y.beside(0, 20);
        y.read(20);
        Maker.told("a ring, a wrong token", y, 5, 1, 0, 1, 0, 20, 4, 0, 0);
    }

    private static void beforeAtLast() {
        CrossTables x = new CrossTables();
        Maker.table(x, 10, 98, "x");
        x.beside(0, 99);
        x.read(10);
        Maker.told("behind its rows", x, 2, 0, 99, 4, 0, 0, 2, 0, 98);
        CrossTables y = new CrossTables();
        Maker.table(y, 10, 10, "x");
        Maker.stream(y, 20, -1, 0);
        y.run(1, 5, 1);
        y.beside(0, 20);
        y.read(10);
        Maker.told("behind what is beside, too", y, 4, 0, 0, 5, 1, 0, 1, 0, 10);
        CrossTables z = new CrossTables();
        Maker.stream(z, 10, 98, 0);
        z.run(0, 5, 1);
        z.read(10);
        Maker.told("behind a stream's rows", z, 5, 0, 0, 2, 0, 98);
    }

    private static void alongTheChain() {
        CrossTables x = new CrossTables();
        Maker.table(x, 10, 30, "1 1 1");
        Maker.stream(x, 20, 77, 1);
        Maker.table(x, 30, 10, "0 1 0 0 n x");
        x.run(1, 50, 1);
        x.beside(2, 20);
        x.beside(0, 20);
        x.read(30);
        Maker.told("from the newer one", x,
                3, 2, 4, 4, 2, 10, 5, 1, 0,
                1, 0, 20, 4, 0, 5, 1, 0, 30,
                7, 0, 0);
        x.beside(0, 21);
        x.read(10);
        Maker.told("from the older one", x,
                2, 0, 21, 4, 0, 5,
                3, 2, 4, 4, 2, 10, 5, 1, 0, 1, 2, 10,
                7, 0, 0);
        x.beside(2, -1);
        x.beside(0, 20);
        x.read(10);
        Maker.told("one beside the older one", x,
                4, 0, 5, 5, 1, 0,
                3, 2, 4, 4, 2, 10, 1, 2, 10,
                7, 0, 0);
    }

    private static void byObjects() {
        CrossTables x = new CrossTables();
        Maker.table(x, 10, 77, "99 1\n" + Maker.row(0, 0, 'n') + "8 2\n" + Maker.row(5, 0, 'n') + Maker.row(0, 0, 'f')
                + "3 2\n" + Maker.row(0, 0, 'f') + Maker.row(6, 0, 'n') + "0 1\n" + Maker.row(4, 0, 'n'));
        x.head(100, 9, 0);
        x.head(200, 3, 0);
        x.read(10);
        Maker.told("behind all of the chain", x, 2, 0, 77, 7, 0, 4, 6, 3, 200, 7, 4, 6, 7, 8, 5, 6, 9, 100, 7, 99, 0);
    }

    /**
     * As much as 511 calls can bring, read already. Nine tables bring two each (nowhere, and a wrong token), two
     * tables a nowhere, their odd rows and an end each, and a stream a nowhere and a hundred wrong objects:
     * 18 + 2 * 2 + rows + 1 + 100.
     */
    private static CrossTables crowded(int rows) {
        CrossTables x = new CrossTables();
        int some = rows / 2;
        for (int i = 0; i < 11; i++) {
            String text = "x";
            if (i >= 9) {
                text = "0 99" + " 0 0 n".repeat(i == 9 ? some : rows - some);
            }
            Maker.table(x, i, i + 1, text);
            x.beside(i, 99);
        }
        x.section(1, 11, 12);
        x.widths(11, 0, 0, 0);
        x.run(11, 0, 100);
        x.read(0);
        return x;
    }

    private static void twoHundred() {
        for (int rows = 76; rows <= 77; rows++) {
            int many = 123 + rows;
            int had = rows;
            Check.answers("how many", many, () -> crowded(had).told(-1, 0));
            Check.answers("the last one's kind", 7, () -> crowded(had).told(many - 1, 0));
            Check.answers("the last one's object", 99, () -> crowded(had).told(many - 1, 1));
            Check.refuses("none behind it", INDEX, () -> crowded(had).told(many, 0));
        }
        CrossTables x = crowded(77);
        x.read(11);
        Check.answers("the next reading keeps its own", 101, () -> x.told(-1, 0));
        Check.answers("the next reading's first", 2, () -> x.told(0, 0));
    }

    private static void oneMore() {
        Check.answers("how many", 200, () -> crowded(78).told(-1, 0));
        Check.answers("the first one's kind", 2, () -> crowded(78).told(0, 0));
        Check.answers("the second one's kind", 4, () -> crowded(78).told(1, 0));
        Check.answers("the hundred and first one's kind", 2, () -> crowded(78).told(100, 0));
        Check.answers("the last one's kind", 7, () -> crowded(78).told(199, 0));
        Check.answers("the last one's object", 98, () -> crowded(78).told(199, 1));
        Check.answers("the last one's place", 0, () -> crowded(78).told(199, 2));
        Check.refuses("none behind it", INDEX, () -> crowded(78).told(200, 0));
        Check.answers("wrong all the same", 4, () -> crowded(78).kind(99));
    }

    private static void howMany() {
        CrossTables x = States.some();
        long many = x.told(-1, 0);
        for (int what : new int[] {-1, 0, 1, 2, 3, 256, Integer.MIN_VALUE, Integer.MAX_VALUE}) {
            Check.answers("told(-1, " + what + ")", many, () -> x.told(-1, what));
            Check.answers("nothing is read: told(-1, " + what + ")", 0, () -> new CrossTables().told(-1, what));
        }
        CrossTables y = new CrossTables();
        Maker.table(y, 10, 77, "x");
        y.read(10);
        Check.answers("two", 2, () -> y.told(-1, 0));
    }

    private static void indicesBeyond() {
        int many = (int) States.some().told(-1, 0);
        Check.answers("the first", 5, () -> States.some().told(0, 0));
        Check.answers("the last", 7, () -> States.some().told(many - 1, 0));
        for (int i : new int[] {-2, many, many + 1, 199, 200, 256, Integer.MIN_VALUE, Integer.MAX_VALUE}) {
            for (int what = -1; what <= 3; what++) {
                int asked = what;
                Twins.refuse("told(" + i + ", " + what + ")", INDEX, States::some, x -> x.told(i, asked));
            }
        }
        for (int i : new int[] {-2, 0, 1, Integer.MIN_VALUE, Integer.MAX_VALUE}) {
            Twins.refuse("told(" + i + ", 0), nothing is read", INDEX, States::fresh, x -> x.told(i, 0));
        }
    }

    private static void whatsBeyond() {
        int many = (int) States.some().told(-1, 0);
        for (int what : new int[] {-1, 3, 256, Integer.MIN_VALUE, Integer.MAX_VALUE}) {
            Twins.refuse("told(0, " + what + ")", INDEX, States::some, x -> x.told(0, what));
            Twins.refuse("told(last, " + what + ")", INDEX, States::some, x -> x.told(many - 1, what));
        }
    }
}
