/** THE CHAIN, and promise 10: read. */
public final class ChainTest {
    public static void main(String[] args) {
        noSectionThere();
        oneBeforeTheOther();
        besideGoesOnNowhere();
        ringsBefore();
        ringsBeside();
        nowhere();
        orderOfWhatIsTold();
        twelveInARow();
        Check.end();
    }

    private static String uses(int object, int place) {
        return object + " 1\n" + Maker.row(place, 0, 'n');
    }

    private static void noSectionThere() {
        CrossTables x = new CrossTables();
        int table = Maker.table(x, 10, 99, "0 2\n" + Maker.row(1, 0, 'f') + Maker.row(0, 0, 'f'));
        x.key(table, 1, 1);
        Check.answers("read(10)", 2, () -> x.read(10));
        Maker.told("read(10)", x, 2, 0, 99);
        Maker.frees("read(10)", x, 1);
        for (long start : new long[] {9, -1, Maker.LAST + 1, Long.MIN_VALUE, Long.MAX_VALUE}) {
            x.read(10);
            Check.answers("read(" + start + ")", -1, () -> x.read(start));
            Maker.told("no section", x);
            Maker.frees("no section", x);
            Maker.nothingCounts("no section", x, 0);
            Maker.revisions("no section", x, 0);
            Check.answers("no section: trailer(1)", -1, () -> x.trailer(1));
        }
    }

    private static void oneBeforeTheOther() {
        CrossTables x = new CrossTables();
        Maker.table(x, 10, -1, uses(1, 101) + "2 1\n" + Maker.row(102, 0, 'n'));
        Maker.table(x, 20, 10, uses(1, 201));
        Maker.table(x, 30, 20, uses(3, 301));
        Check.answers("from the last", 3, () -> x.read(30));
        Maker.counts("from the last", x, 1, 4, 201, 0);
        Maker.counts("from the last", x, 2, 4, 102, 0);
        Maker.revisions("from the last", x, 1, 1, 0);
        Maker.revisions("from the last", x, 3, 2);
        Maker.told("from the last", x, 7, 1, 201, 7, 2, 102, 7, 3, 301);
        Check.answers("from the first", 2, () -> x.read(10));
        Maker.counts("from the first", x, 1, 4, 101, 0);
        Maker.nothingCounts("from the first", x, 3);
    }

    private static void besideGoesOnNowhere() {
        CrossTables x = new CrossTables();
        Maker.table(x, 10, -1, uses(1, 101));
        int stream = Maker.stream(x, 20, 40, 1, 0, 22, 0, 1, 0, 23, 0);
        x.run(stream, 1, 2);
        int table = Maker.table(x, 30, 10, "");
        Maker.table(x, 40, -1, uses(4, 401));
        x.beside(table, 20);
        x.head(22, 1, 0);
        x.head(23, 2, 0);
        Check.answers("a stream beside", 2, () -> x.read(30));
        Maker.revisions("the stream comes first", x, 1, 1, 0);
        Maker.counts("a stream beside", x, 2, 2, 23, 0);
        Maker.nothingCounts("before what is beside", x, 4);
        Maker.told("a stream beside", x);
    }

    private static void ringsBefore() {
        CrossTables x = new CrossTables();
        Maker.table(x, 10, 10, "");
        Check.answers("itself", 0, () -> x.read(10));
        Maker.told("itself", x, 1, 0, 10);

        CrossTables y = new CrossTables();
        Maker.table(y, 10, 30, "");
        Maker.stream(y, 20, 10);
        Maker.table(y, 30, 20, "");
        y.read(20);
        Maker.told("three in a ring", y, 1, 2, 20);

        CrossTables z = new CrossTables();
        int table = Maker.table(z, 10, 20, "");
        Maker.stream(z, 20, -1);
        z.beside(table, 20);
        z.read(10);
        Maker.told("what is beside is also before", z, 1, 0, 20);
    }

    private static void ringsBeside() {
        CrossTables x = new CrossTables();
        int table = Maker.table(x, 10, -1, uses(5, 50));
        Maker.stream(x, 20, 10);
        x.beside(table, 20);
        x.head(50, 5, 0);
        Check.answers("the start is beside", 1, () -> x.read(20));
        Maker.told("the start is beside", x, 1, 0, 20);

        CrossTables y = new CrossTables();
        int old = Maker.table(y, 10, -1, "");
        Maker.stream(y, 20, -1);
        int newer = Maker.table(y, 30, 10, "");
        y.beside(old, 20);
        y.beside(newer, 20);
        y.read(30);
        Maker.told("beside two", y, 1, 0, 20);
        y.read(10);
        Maker.told("beside one", y);
    }

    private static void nowhere() {
        CrossTables x = new CrossTables();
        int table = Maker.table(x, 10, 11, "");
        int older = Maker.table(x, 20, -1, "");
        x.beside(table, 12);
        x.read(10);
        Maker.told("no section", x, 2, 0, 12, 2, 0, 11);
        x.beside(table, 20);
        x.read(10);
        Maker.told("a table beside", x, 2, 0, 20, 2, 0, 11);
        x.beside(table, 10);
        x.read(10);
        Maker.told("itself beside is no stream", x, 2, 0, 10, 2, 0, 11);
        x.beside(older, 0);
        x.read(20);
        Maker.told("place 0 is a place", x, 2, 1, 0);
    }

    /** Beside, then the rows, then the rows of the one beside, and before at last. */
    private static void orderOfWhatIsTold() {
        CrossTables x = new CrossTables();
        int old = Maker.table(x, 10, 30, "1 1 1");
        int stream = Maker.stream(x, 20, 77, 1);
        int newer = Maker.table(x, 30, 10, "0 1 0 0 n x");
        x.run(stream, 50, 1);
        x.beside(newer, 20);
        x.beside(old, 20);
        x.read(30);
        Maker.told("newer and older", x,
                3, 2, 4, 4, 2, 10, 5, 1, 0,
                1, 0, 20, 4, 0, 5, 1, 0, 30,
                7, 0, 0);
        x.beside(old, 21);
        x.read(10);
        Maker.told("from the older one", x,
                2, 0, 21, 4, 0, 5,
                3, 2, 4, 4, 2, 10, 5, 1, 0, 1, 2, 10,
                7, 0, 0);
        x.beside(newer, -1);
        x.beside(old, 20);
        x.read(10);
        Maker.told("one beside the older one", x,
                4, 0, 5, 5, 1, 0,
                3, 2, 4, 4, 2, 10, 1, 2, 10,
                7, 0, 0);
    }

    private static void twelveInARow() {
        CrossTables x = new CrossTables();
        for (int i = 0; i < 12; i++) {
            Maker.table(x, i, (i + 1) % 12, uses(i, i) + "99 1\n" + Maker.row(0, 0, 'f'));
        }
        Check.answers("twelve", 13, () -> x.read(5));
        Maker.revisions("twelve", x, 99, 5, 6, 7, 8, 9, 10, 11, 0, 1, 2, 3, 4);
        Check.answers("told", 13, () -> x.told(-1, 9));
        Check.answers("the ring", 1, () -> x.told(0, 0));
        Check.answers("whose it is", 4, () -> x.told(0, 1));
        Check.answers("its place", 5, () -> x.told(0, 2));
    }
}
