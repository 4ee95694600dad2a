/** Objects to try refused calls on: a new one, one with some of everything, and a full one; the latter two are read. */
final class States {
    private States() {
    }

    static CrossTables fresh() {
        return new CrossTables();
    }

    /** Sections 0 and 2 are tables at 100 and 300, section 1 is a stream at 200, with two runs. */
    static CrossTables some() {
        CrossTables x = new CrossTables();
        Maker.table(x, 100, 300, "0 3\n" + Maker.row(2, 65535, 'f') + Maker.row(17, 0, 'n') + Maker.row(0, 1, 'f'));
        Maker.stream(x, 200, -1, 1, 0, 18, 0, 2, 0, 3, 4, 1);
        Maker.table(x, 300, 100, "1 1\n" + Maker.row(19, 0, 'n') + "5 2 20 0 n x");
        x.beside(0, 200);
        x.beside(2, 400);
        x.run(1, 3, 2);
        x.run(1, 6, 1);
        x.head(17, 1, 0);
        x.head(18, 3, 0);
        x.head(40, 2, 0);
        x.key(0, 1, 11);
        x.key(2, 2, 22);
        x.key(1, 9, 99);
        x.read(100);
        return x;
    }

    /**
     * Twelve sections, at 100, 200, .. 1200; section 0 is a table with 300 bytes, section 1 a stream with 6 runs
     * beside it, the others are before one another; 60 heads, at 0, 10, .. 590. The last run, and the head that
     * was made last (of object 1), are of those that a reading looks at.
     */
    static CrossTables full() {
        CrossTables x = new CrossTables();
        StringBuilder text = new StringBuilder(" ".repeat(15)).append("0 14\n");
        for (int i = 0; i < 14; i++) {
            text.append(i % 2 == 0 ? Maker.row(i == 12 ? 0 : i + 2, i, 'f') : Maker.row(i * 10, i, 'n'));
        }
        Maker.table(x, 100, 300, text.toString());
        Maker.stream(x, 200, -1, 1, 0, 18, 0, 2, 0, 3, 4, 1);
        x.widths(1, 0, 1, 0);
        for (int i = 2; i < 12; i++) {
            x.section(i % 2, (i + 1) * 100, i == 11 ? -1 : (i + 2) * 100);
        }
        x.beside(0, 200);
        for (int i = 0; i < 6; i++) {
            x.run(1, 3 + i, 1);
        }
        for (int i = 2; i < 62; i++) {
            int object = i % 60;
            x.head(object * 10, object, object % 3);
        }
        x.key(0, 1, 11);
        x.key(11, 2, 22);
        x.read(100);
        return x;
    }
}
