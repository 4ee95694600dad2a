/** Promise 15: free. */
public final class FreeTest {
    public static void main(String[] args) {
        lists();
        noneUnlessTheFirstIsFree();
        ends();
        allOfThem();
        wrongInputs();
        Check.end();
    }

    private static void lists() {
        CrossTables x = Maker.readTable("0 5\n" + Maker.row(3, 0, 'f') + Maker.row(4, 0, 'f') + Maker.row(0, 0, 'f')
                + Maker.row(1, 0, 'f') + Maker.row(0, 0, 'f'));
        Maker.frees("by the one before", x, 3, 1, 4);
        x.read(11);
        Maker.frees("no reading", x);
        Maker.frees("none", Maker.readTable("0 2\n" + Maker.row(0, 0, 'f') + Maker.row(0, 0, 'f')));
    }

    private static void noneUnlessTheFirstIsFree() {
        CrossTables x = Maker.readTable("0 2\n" + Maker.row(1, 0, 'n') + Maker.row(0, 0, 'f'));
        Maker.frees("0 is wrong", x);
        x.head(1, 0, 0);
        x.read(10);
        Maker.counts("0 is used", x, 0, 2, 1, 0);
        Maker.frees("0 is used", x);
        Maker.frees("nothing counts for 0", Maker.readTable("1 1\n" + Maker.row(0, 0, 'f')));
        CrossTables y = new CrossTables();
        int s = Maker.stream(y, 10, -1, 2, 0, 1, 0, 0, 0, 0, 0);
        y.run(s, 0, 2);
        y.read(10);
        Maker.frees("0 is within", y);
    }

    private static void ends() {
        Maker.frees("itself", Maker.readTable("0 2\n" + Maker.row(1, 0, 'f') + Maker.row(1, 0, 'f')), 1);
        Maker.frees("one that came", Maker.readTable("0 4\n" + Maker.row(1, 0, 'f') + Maker.row(2, 0, 'f')
                + Maker.row(3, 0, 'f') + Maker.row(2, 0, 'f')), 1, 2, 3);
        Maker.frees("one that is used", Maker.readTable("0 3\n" + Maker.row(1, 0, 'f') + Maker.row(2, 0, 'f')
                + Maker.row(0, 0, 'n')), 1);
        Maker.frees("one of which nothing counts", Maker.readTable("0 2\n" + Maker.row(1, 0, 'f') + Maker.row(5, 0, 'f')), 1);
        Maker.frees("above the last", Maker.readTable("0 2\n" + Maker.row(1, 0, 'f') + Maker.row(100, 0, 'f')), 1);
        Maker.frees("far above", Maker.readTable("0 2\n" + Maker.row(4294967297L, 0, 'f') + Maker.row(0, 0, 'f')));
        Maker.frees("the last place", Maker.readTable("0 2\n" + Maker.row(1, 0, 'f') + Maker.row(9999999999L, 0, 'f')), 1);
        Maker.frees("the last object", Maker.readTable("0 1\n" + Maker.row(99, 0, 'f') + "99 1\n" + Maker.row(0, 0, 'f')), 99);
    }

    private static void allOfThem() {
        CrossTables x = new CrossTables();
        int s = x.section(1, 10, -1);
        x.widths(s, 1, 1, 0);
        x.run(s, 0, 100);
        int[] want = new int[99];
        for (int i = 0; i < 100; i++) {
            x.add(s, (byte) 0);
            x.add(s, (byte) ((i + 37) % 100));
        }
        for (int i = 0; i < 99; i++) {
            want[i] = (i + 1) * 37 % 100;
        }
        x.read(10);
        Maker.frees("all", x, want);
    }

    private static void wrongInputs() {
        CrossTables x = Maker.readTable("0 2\n" + Maker.row(1, 0, 'f') + Maker.row(0, 0, 'f'));
        Check.refuses("free(-2)", IndexOutOfBoundsException.class, () -> x.free(-2));
        Check.refuses("free(least)", IndexOutOfBoundsException.class, () -> x.free(Integer.MIN_VALUE));
        Check.answers("free(greatest)", -1, () -> x.free(Integer.MAX_VALUE));
        Check.answers("free(100)", -1, () -> x.free(100));
    }
}
