/** THE CHAIN: what is gone along, what is NOWHERE and what is a RING. */
public final class ChainTest {
    public static void main(String[] args) {
        Check.sentence("THE CHAIN from a start: the SECTION with that PLACE", ChainTest::theStart);
        Check.sentence("if it has one BESIDE, behind it that one", ChainTest::behindItThatBeside);
        Check.sentence("then likewise what is BEFORE it, and so on", ChainTest::thenWhatIsBefore);
        Check.sentence("(what is BESIDE goes on nowhere)", ChainTest::besideGoesOnNowhere);
        Check.sentence("NOWHERE is a place BEFORE with no SECTION", ChainTest::nowhereBefore);
        Check.sentence("NOWHERE is a place BESIDE with no SECTION", ChainTest::nowhereBeside);
        Check.sentence("(BESIDE: no STREAM)", ChainTest::tableBeside);
        Check.sentence("NOWHERE, and not a RING: a table BESIDE that is in THE CHAIN", ChainTest::tableOfTheChainBeside);
        Check.sentence("a RING one BEFORE whose SECTION is in THE CHAIN already", ChainTest::ringsBefore);
        Check.sentence("a RING one BESIDE whose SECTION is in THE CHAIN already", ChainTest::ringsBeside);
        Check.sentence("a RING: what is BESIDE is BEFORE, too", ChainTest::besideIsBefore);
        Check.sentence("both are TOLD, and not gone to: BEFORE, the chain ends", ChainTest::beforeEndsTheChain);
        Check.sentence("both are TOLD, and not gone to: BESIDE, the chain goes on", ChainTest::besideEndsNothing);
        Check.sentence("twelve sections in one chain", ChainTest::twelve);
        Check.sentence("twelve sections in one ring", ChainTest::ringOfTwelve);
        Check.sentence("twelve sections, six of them beside", ChainTest::sixBeside);
        Check.end();
    }

    private static String frees(int object) {
        return object + " 1\n" + Maker.row(0, 0, 'f');
    }

    /** A stream with a row of one object that is free. */
    private static int freeingStream(CrossTables x, long place, long before, int object) {
        int stream = Maker.stream(x, place, before, 0, 0, 0, 0);
        x.run(stream, object, 1);
        return stream;
    }

    private static void theStart() {
        CrossTables x = new CrossTables();
        Maker.table(x, 10, -1, frees(1));
        Maker.table(x, 20, 10, frees(2));
        freeingStream(x, 30, -1, 3);
        for (int i = 0; i < 3; i++) {
            int start = 10 * (i + 1);
            Check.answers("read(" + start + ")", i == 1 ? 2 : 1, () -> x.read(start));
            Maker.revisions("read(" + start + ")", x, i + 1, i);
            Maker.told("read(" + start + ")", x);
        }
    }

    private static void behindItThatBeside() {
        CrossTables x = new CrossTables();
        Maker.table(x, 10, -1, frees(1));
        freeingStream(x, 20, -1, 1);
        Maker.table(x, 30, 10, frees(1));
        x.beside(2, 20);
        x.read(30);
        Maker.revisions("beside, then before", x, 1, 2, 1, 0);
        x.read(10);
        Maker.revisions("none beside", x, 1, 0);
    }

    private static void thenWhatIsBefore() {
        CrossTables x = new CrossTables();
        Maker.table(x, 10, -1, frees(1));
        freeingStream(x, 20, 10, 1);
        Maker.table(x, 30, 20, frees(1));
        freeingStream(x, 40, 77, 1);
        freeingStream(x, 50, 78, 1);
        x.beside(0, 40);
        x.beside(2, 50);
        x.read(30);
        Maker.revisions("likewise", x, 1, 2, 4, 1, 0, 3);
        Maker.told("likewise", x);
        x.read(20);
        Maker.revisions("from a stream on", x, 1, 1, 0, 3);
    }

    private static void besideGoesOnNowhere() {
        CrossTables x = new CrossTables();
        Maker.table(x, 10, -1, frees(1));
        freeingStream(x, 20, 10, 2);
        Maker.table(x, 30, -1, frees(3));
        x.beside(2, 20);
        Check.answers("what is before it is not read", 2, () -> x.read(30));
        Maker.nothingCounts("what is before it is not read", x, 1);
        CrossTables y = new CrossTables();
        freeingStream(y, 20, 77, 2);
        Maker.table(y, 30, -1, frees(3));
        y.beside(1, 20);
        y.read(30);
        Maker.told("nor told", y);
        CrossTables z = new CrossTables();
        freeingStream(z, 20, 30, 2);
        Maker.table(z, 30, -1, frees(3));
        z.beside(1, 20);
        z.read(30);
        Maker.told("nor is it a ring", z);
    }

    private static void nowhereBefore() {
        for (long before : new long[] {0, 9, 11, 10 + (1L << 32), Maker.LAST}) {
            for (int kind = 0; kind < 2; kind++) {
                CrossTables x = new CrossTables();
                x.section(kind, 10, before);
                Check.answers("before " + before, 0, () -> x.read(10));
                Maker.told("before " + before, x, 2, 0, before);
            }
        }
    }

    private static void nowhereBeside() {
        for (long beside : new long[] {0, 9, 11, 20 + (1L << 32), Maker.LAST}) {
            CrossTables x = new CrossTables();
            x.section(0, 10, -1);
            x.section(1, 20, -1);
            x.beside(0, beside);
            Check.answers("beside " + beside, 0, () -> x.read(10));
            Maker.told("beside " + beside, x, 2, 0, beside);
        }
    }

    private static void tableBeside() {
        CrossTables x = new CrossTables();
        Maker.table(x, 10, -1, frees(1));
        Maker.table(x, 20, -1, frees(2));
        x.beside(1, 10);
        Check.answers("it is not read", 1, () -> x.read(20));
        Maker.told("a table", x, 2, 1, 10);
        Maker.nothingCounts("it is not read", x, 1);
    }

    private static void tableOfTheChainBeside() {
        CrossTables x = new CrossTables();
        Maker.table(x, 10, -1, frees(1));
        Maker.table(x, 20, 10, frees(2));
        x.beside(0, 20);
        x.read(20);
        Maker.told("the start", x, 2, 0, 20);
        x.beside(0, 10);
        x.read(10);
        Maker.told("itself", x, 2, 0, 10);
    }

    private static void ringsBefore() {
        CrossTables x = new CrossTables();
        Maker.table(x, 10, 10, frees(1));
        Check.answers("itself", 1, () -> x.read(10));
        Maker.told("itself", x, 1, 0, 10);

        CrossTables y = new CrossTables();
        Maker.table(y, 10, 30, "");
        Maker.stream(y, 20, 10);
        Maker.table(y, 30, 20, "");
        Maker.table(y, 40, 20, "");
        y.read(20);
        Maker.told("the start", y, 1, 2, 20);
        y.read(30);
        Maker.told("another start", y, 1, 0, 30);
        y.read(40);
        Maker.told("not the start", y, 1, 2, 20);
    }

    private static void ringsBeside() {
        CrossTables x = new CrossTables();
        Maker.table(x, 10, -1, frees(5));
        freeingStream(x, 20, 10, 6);
        x.beside(0, 20);
        Check.answers("the start", 2, () -> x.read(20));
        Maker.told("the start", x, 1, 0, 20);
        Maker.revisions("read once", x, 6, 1);
        x.read(10);
        Maker.told("not from there", x);

        CrossTables y = new CrossTables();
        Maker.table(y, 10, -1, "");
        freeingStream(y, 20, -1, 6);
        Maker.table(y, 30, 10, "");
        y.beside(0, 20);
        y.beside(2, 20);
        y.read(30);
        Maker.told("beside a newer one", y, 1, 0, 20);
        Maker.revisions("read once", y, 6, 1);
    }

    private static void besideIsBefore() {
        CrossTables x = new CrossTables();
        Maker.table(x, 10, 20, "");
        freeingStream(x, 20, 30, 6);
        Maker.table(x, 30, -1, frees(7));
        x.beside(0, 20);
        Check.answers("its section is in the chain", 1, () -> x.read(10));
        Maker.told("its section is in the chain", x, 1, 0, 20);
        Maker.nothingCounts("it is not gone to", x, 7);
    }

    private static void beforeEndsTheChain() {
        CrossTables x = new CrossTables();
        Maker.table(x, 10, 20, frees(1));
        Maker.table(x, 20, 10, frees(1));
        Check.answers("a ring", 1, () -> x.read(10));
        Maker.revisions("each once", x, 1, 0, 1);
        Check.answers("told once", 1, () -> x.told(-1, 0));
    }

    private static void besideEndsNothing() {
        CrossTables x = new CrossTables();
        Maker.table(x, 10, -1, frees(1));
        Maker.table(x, 20, 10, frees(2));
        freeingStream(x, 30, 20, 3);
        x.beside(1, 99);
        Check.answers("nowhere", 2, () -> x.read(20));
        Maker.told("nowhere", x, 2, 1, 99);
        x.beside(1, 30);
        Check.answers("a ring", 3, () -> x.read(30));
        Maker.told("a ring", x, 1, 1, 30);
        x.beside(1, 10);
        Check.answers("a table", 2, () -> x.read(20));
        Maker.told("a table", x, 2, 1, 10);
        Maker.revisions("the table is gone to as what is before", x, 1, 0);
    }

    private static void twelve() {
        CrossTables x = new CrossTables();
        for (int i = 0; i < 12; i++) {
            Maker.table(x, i, i == 11 ? -1 : i + 1, frees(9));
        }
        Check.answers("read(0)", 1, () -> x.read(0));
        Maker.revisions("from the first", x, 9, 0, 1, 2, 3, 4, 5, 6, 7, 8, 9, 10, 11);
        Maker.told("from the first", x);
        x.read(11);
        Maker.revisions("from the last", x, 9, 11);
    }

    private static void ringOfTwelve() {
        CrossTables x = new CrossTables();
        for (int i = 0; i < 12; i++) {
            Maker.table(x, i, (i + 1) % 12, frees(9));
        }
        x.read(5);
        Maker.revisions("from the sixth", x, 9, 5, 6, 7, 8, 9, 10, 11, 0, 1, 2, 3, 4);
        Maker.told("from the sixth", x, 1, 4, 5);
    }

    private static void sixBeside() {
        CrossTables x = new CrossTables();
        for (int i = 0; i < 6; i++) {
            Maker.table(x, i, i == 5 ? -1 : i + 1, frees(9));
            freeingStream(x, 100 + i, -1, 9);
            x.beside(2 * i, 100 + i);
        }
        x.read(0);
        Maker.revisions("tables and streams", x, 9, 0, 1, 2, 3, 4, 5, 6, 7, 8, 9, 10, 11);
        Maker.told("tables and streams", x);
    }
}
