/** Promises 11, 12 and 13: kind, place, revision; and what is FREE with a HEAD, or WRONG. */
public final class ObjectsTest {
    public static void main(String[] args) {
        wrongInputs();
        headsOfUsedOnes();
        headsOfFreeOnes();
        withinNeedsNoHead();
        latestReading();
        revisions();
        Check.end();
    }

    private static void wrongInputs() {
        CrossTables x = new CrossTables();
        Maker.table(x, 10, -1, "0 1\n" + Maker.row(5, 6, 'f'));
        x.read(10);
        for (int object : new int[] {-1, 100, Integer.MIN_VALUE, Integer.MAX_VALUE}) {
            Check.refuses("kind(" + object + ")", IndexOutOfBoundsException.class, () -> x.kind(object));
            Check.refuses("place(" + object + ", 0)", IndexOutOfBoundsException.class, () -> x.place(object, 0));
            Check.refuses("revision(" + object + ", -1)", IndexOutOfBoundsException.class, () -> x.revision(object, -1));
        }
        for (int what : new int[] {-1, 2, Integer.MIN_VALUE, Integer.MAX_VALUE}) {
            Check.refuses("place(0, " + what + ")", IndexOutOfBoundsException.class, () -> x.place(0, what));
            Check.refuses("place(9, " + what + ")", IndexOutOfBoundsException.class, () -> x.place(9, what));
        }
        Check.refuses("revision(0, -2)", IndexOutOfBoundsException.class, () -> x.revision(0, -2));
        Check.refuses("revision(0, least)", IndexOutOfBoundsException.class, () -> x.revision(0, Integer.MIN_VALUE));
        Check.answers("revision(0, greatest)", -1, () -> x.revision(0, Integer.MAX_VALUE));
        Check.answers("revision(0, 40)", -1, () -> x.revision(0, 40));
        Maker.counts("0", x, 0, 1, 5, 6);
        Maker.nothingCounts("99", x, 99);
    }

    private static void headsOfUsedOnes() {
        CrossTables x = new CrossTables();
        Maker.table(x, 10, -1, "0 6\n" + Maker.row(50, 0, 'n') + Maker.row(51, 1, 'n') + Maker.row(52, 2, 'n')
                + Maker.row(53, 3, 'n') + Maker.row(9999999999L, 99999, 'n') + "0000000055 65536 n \n");
        x.head(50, 0, 0);
        x.head(51, 2, 1);
        x.head(52, 2, 3);
        x.head(9999999999L, 4, 99999);
        x.head(55, 5, 0);
        Check.answers("six count", 6, () -> x.read(10));
        Maker.counts("its head", x, 0, 2, 50, 0);
        Maker.counts("another object", x, 1, 4, 51, 1);
        Maker.counts("another generation", x, 2, 4, 52, 2);
        Maker.counts("no head", x, 3, 4, 53, 3);
        Maker.counts("the last place", x, 4, 2, 9999999999L, 99999);
        Maker.counts("a large generation", x, 5, 4, 55, 65536);
        Maker.told("used", x, 7, 1, 51, 7, 2, 52, 7, 3, 53, 7, 5, 55);
    }

    private static void headsOfFreeOnes() {
        CrossTables x = new CrossTables();
        Maker.table(x, 10, -1, "0 3\n" + Maker.row(0, 0, 'f') + Maker.row(0, 0, 'f') + Maker.row(0, 0, 'f'));
        x.head(70, 0, 0);
        x.head(90, 1, 5);
        x.head(80, 1, 6);
        x.head(85, 1, 7);
        x.head(60, 3, 0);
        x.read(10);
        Maker.counts("1", x, 1, 1, 0, 0);
        Maker.told("the least place, and not of 0", x, 6, 1, 80);
        x.head(0, 2, 0);
        x.head(80, 4, 0);
        x.read(10);
        Maker.told("place 0 is one, too", x, 6, 1, 85, 6, 2, 0);
    }

    private static void withinNeedsNoHead() {
        CrossTables x = new CrossTables();
        int s = Maker.stream(x, 10, -1, 2, 0, 9, 1, 2, 0, 0, 0, 2, 1, 0, 255);
        x.run(s, 0, 3);
        x.head(9, 9, 9);
        Check.answers("three count", 3, () -> x.read(10));
        Maker.counts("within 9", x, 0, 3, 9, 1);
        Maker.counts("within 0", x, 1, 3, 0, 0);
        Maker.counts("within one that is none", x, 2, 3, 256, 255);
        Maker.told("within", x);
    }

    private static void latestReading() {
        CrossTables x = new CrossTables();
        int table = Maker.table(x, 10, -1, "1 1\n" + Maker.row(50, 0, 'n'));
        Maker.table(x, 20, -1, "2 1\n" + Maker.row(60, 0, 'n'));
        Maker.nothingCounts("before a reading", x, 1);
        x.read(10);
        x.head(50, 1, 0);
        for (char c : ("2 1\n" + Maker.row(0, 3, 'f')).toCharArray()) {
            x.add(table, (byte) c);
        }
        Maker.counts("what comes later is not read", x, 1, 4, 50, 0);
        Maker.nothingCounts("what comes later is not read", x, 2);
        Maker.told("what comes later is not read", x, 7, 1, 50);
        x.read(10);
        Maker.counts("read again", x, 1, 2, 50, 0);
        Maker.counts("read again", x, 2, 1, 0, 3);
        Maker.told("read again", x);
        x.read(20);
        Maker.nothingCounts("of the other chain", x, 1);
        Maker.counts("of the other chain", x, 2, 4, 60, 0);
        Maker.revisions("of the other chain", x, 1);
        Maker.revisions("of the other chain", x, 2, 1);
    }

    private static void revisions() {
        CrossTables x = new CrossTables();
        Maker.table(x, 10, -1, "1 2\n" + Maker.row(0, 1, 'f') + Maker.row(0, 1, 'f'));
        int stream = Maker.stream(x, 20, -1, 0, 0, 0, 2, 7, 0, 0, 2);
        x.run(stream, 1, 2);
        int newer = Maker.table(x, 30, 10, "2 1\n" + Maker.row(0, 3, 'f') + "2 1\n" + Maker.row(0, 3, 'f'));
        x.beside(newer, 20);
        Maker.table(x, 40, 30, "");
        x.read(40);
        Maker.revisions("1", x, 1, 1, 0);
        Maker.revisions("2", x, 2, 2, 0);
        Maker.revisions("3", x, 3);
    }
}
