/** Promise 15: free. */
public final class FreeTest {
    public static void main(String[] args) {
        Check.sentence("from the next one that 0 tells on, each by the one before it", FreeTest::lists);
        Check.sentence("(none, unless what COUNTS for 0 is FREE)", FreeTest::zeroIsNotFree);
        Check.sentence("as long as they are FREE", FreeTest::asLongAsTheyAreFree);
        Check.sentence("objects above 99 are none", FreeTest::aboveTheLast);
        Check.sentence("and none comes twice", FreeTest::noneComesTwice);
        Check.sentence("(0 ends them, too)", FreeTest::zeroEnds);
        Check.sentence("all ninety-nine of them", FreeTest::allOfThem);
        Check.sentence("-1 when there is none such", FreeTest::noneSuch);
        Check.sentence("i = -1: how many", FreeTest::howMany);
        Check.sentence("IndexOutOfBoundsException (i below -1)", FreeTest::indicesBeyond);
        Check.sentence("by the latest reading", FreeTest::latestReading);
        Check.end();
    }

    /** A table that tells of 0, 1, .. that they are free, each with the next one. */
    private static CrossTables free(long... next) {
        StringBuilder text = new StringBuilder("0 ").append(next.length).append('\n');
        for (long object : next) {
            text.append(Maker.row(object, 0, 'f'));
        }
        return Maker.readTable(text.toString());
    }

    private static void lists() {
        Maker.frees("in order", free(1, 2, 3, 0), 1, 2, 3);
        Maker.frees("by the one before", free(3, 4, 0, 1, 0), 3, 1, 4);
        Maker.frees("not all of them", free(2, 0, 0), 2);
        CrossTables x = new CrossTables();
        Maker.table(x, 10, -1, "0 3\n" + Maker.row(1, 0, 'f') + Maker.row(0, 0, 'f') + Maker.row(1, 0, 'f'));
        Maker.table(x, 20, 10, "0 1\n" + Maker.row(2, 0, 'f'));
        x.read(20);
        Maker.frees("by what counts", x, 2, 1);
    }

    private static void zeroIsNotFree() {
        String one = Maker.row(0, 0, 'f');
        CrossTables x = Maker.readTable("0 2\n" + Maker.row(1, 0, 'n') + one);
        Maker.frees("0 is wrong", x);
        x.head(1, 0, 0);
        x.read(10);
        Maker.counts("0 is used", x, 0, 2, 1, 0);
        Maker.frees("0 is used", x);
        Maker.frees("nothing counts for 0", Maker.readTable("1 1\n" + one));
        CrossTables y = new CrossTables();
        Maker.stream(y, 10, -1, 2, 0, 1, 0, 0, 0, 0, 0);
        y.run(0, 0, 2);
        y.read(10);
        Maker.frees("0 is within", y);
        Maker.frees("0 is free", Maker.readTable("0 2\n" + Maker.row(1, 0, 'f') + one), 1);
    }

    private static void asLongAsTheyAreFree() {
        Maker.frees("the first is used", Maker.readTable("0 2\n" + Maker.row(1, 0, 'f') + Maker.row(0, 0, 'n')));
        CrossTables x = new CrossTables();
        Maker.stream(x, 10, -1, 0, 1, 0, 2, 2, 3, 0, 0);
        x.widths(0, 1, 1, 0);
        x.run(0, 0, 4);
        x.read(10);
        Maker.frees("the second is within", x, 1);
        Maker.frees("nothing counts for the second", free(1, 5), 1);
        Maker.frees("nothing counts for the first", free(5));
        CrossTables y = Maker.readTable("0 3\n" + Maker.row(1, 0, 'f') + Maker.row(2, 0, 'f') + Maker.row(50, 0, 'n'));
        Maker.frees("the second is wrong", y, 1);
        y.head(50, 2, 0);
        y.read(10);
        Maker.frees("the second is used", y, 1);
        y.head(60, 1, 0);
        y.read(10);
        Maker.frees("the first has a head, but is free", y, 1);
    }

    private static void aboveTheLast() {
        Maker.frees("99", Maker.readTable("0 1\n" + Maker.row(99, 0, 'f') + "99 1\n" + Maker.row(0, 0, 'f')), 99);
        for (long next : new long[] {100, 101, 256, 257, 65537, 2147483649L, 4294967296L, 4294967297L, 8589934593L, Maker.LAST}) {
            Maker.frees("0 tells " + next, free(next, 0));
            Maker.frees("1 tells " + next, free(1, next), 1);
        }
    }

    private static void noneComesTwice() {
        Maker.frees("itself", free(1, 1), 1);
        Maker.frees("two", free(1, 2, 1), 1, 2);
        Maker.frees("not the first", free(1, 2, 3, 2), 1, 2, 3);
        Maker.frees("the last", free(1, 2, 3, 3), 1, 2, 3);
    }

    private static void zeroEnds() {
        Maker.frees("at once", free(0, 0));
        Maker.frees("0 alone", free(0));
        Maker.frees("behind one", free(1, 0, 0), 1);
        Maker.frees("behind two", free(2, 0, 1), 2, 1);
    }

    private static CrossTables ninetyNine() {
        CrossTables x = new CrossTables();
        x.section(1, 10, -1);
        x.widths(0, 1, 1, 0);
        x.run(0, 0, 100);
        for (int i = 0; i < 100; i++) {
            x.add(0, (byte) 0);
            x.add(0, (byte) ((i + 37) % 100));
        }
        x.read(10);
        return x;
    }

    private static void allOfThem() {
        int[] want = new int[99];
        for (int i = 0; i < 99; i++) {
            want[i] = (i + 1) * 37 % 100;
        }
        Maker.frees("all", ninetyNine(), want);
    }

    private static void noneSuch() {
        CrossTables x = free(1, 2, 0);
        Check.answers("free(1)", 2, () -> x.free(1));
        for (int i : new int[] {2, 3, 98, 99, 100, 256, Integer.MAX_VALUE}) {
            Check.answers("free(" + i + ")", -1, () -> x.free(i));
            Check.answers("nothing is read: free(" + i + ")", -1, () -> new CrossTables().free(i));
        }
        for (int i : new int[] {99, 100, 101, Integer.MAX_VALUE}) {
            Check.answers("of ninety-nine, free(" + i + ")", -1, () -> ninetyNine().free(i));
        }
        Check.answers("of ninety-nine, the last", 63, () -> ninetyNine().free(98));
    }

    private static void howMany() {
        Check.answers("none", 0, () -> free(0).free(-1));
        Check.answers("one", 1, () -> free(1, 0).free(-1));
        Check.answers("two", 2, () -> free(1, 2, 0).free(-1));
        Check.answers("ninety-nine", 99, () -> ninetyNine().free(-1));
        Check.answers("nothing is read", 0, () -> new CrossTables().free(-1));
    }

    private static void indicesBeyond() {
        for (int i : new int[] {-2, -3, -256, Integer.MIN_VALUE}) {
            Twins.refuse("free(" + i + ")", IndexOutOfBoundsException.class, States::some, x -> x.free(i));
            Twins.refuse("free(" + i + "), nothing is read", IndexOutOfBoundsException.class, States::fresh, x -> x.free(i));
        }
    }

    private static void latestReading() {
        CrossTables x = free(1, 2, 0);
        Maker.table(x, 20, -1, "0 2\n" + Maker.row(1, 0, 'f') + Maker.row(2, 0, 'f'));
        Maker.frees("the first", x, 1, 2);
        x.read(20);
        Maker.frees("the second", x, 1);
        x.read(30);
        Maker.frees("no section is there", x);
        x.read(10);
        Maker.frees("the first again", x, 1, 2);
    }
}
