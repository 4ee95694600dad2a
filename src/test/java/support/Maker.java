/** Short words for filling an object and for looking at what was told. */
final class Maker {
    static final int TABLE = 0;
    static final int STREAM = 1;
    static final long LAST = 9999999999L;

    private Maker() {
    }

    static int table(CrossTables x, long place, long before, String text) {
        int section = x.section(TABLE, place, before);
        for (int i = 0; i < text.length(); i++) {
            x.add(section, (byte) text.charAt(i));
        }
        return section;
    }

    static int stream(CrossTables x, long place, long before, int... bytes) {
        int section = x.section(STREAM, place, before);
        for (int b : bytes) {
            x.add(section, (byte) b);
        }
        return section;
    }

    /** A new object with one table, section 0 at place 10, that is read already. */
    static CrossTables readTable(String text) {
        CrossTables x = new CrossTables();
        table(x, 10, -1, text);
        x.read(10);
        return x;
    }

    /** A row of a table as it should stand, twenty bytes long. */
    static String row(long place, long generation, char mark) {
        return String.format("%010d %05d %c \n", place, generation, mark);
    }

    /** Looks at all that was told: want has a kind, a section or object, and a number, again and again. */
    static void told(String what, CrossTables x, long... want) {
        Check.answers(what + ": told(-1, 0)", want.length / 3, () -> x.told(-1, 0));
        for (int k = 0; k < want.length; k++) {
            int i = k / 3;
            int part = k % 3;
            Check.answers(what + ": told(" + i + ", " + part + ")", want[k], () -> x.told(i, part));
        }
    }

    /** Looks at what counts for an object. */
    static void counts(String what, CrossTables x, int object, int kind, long place, long generation) {
        Check.answers(what + ": kind(" + object + ")", kind, () -> x.kind(object));
        Check.answers(what + ": place(" + object + ", 0)", place, () -> x.place(object, 0));
        Check.answers(what + ": place(" + object + ", 1)", generation, () -> x.place(object, 1));
    }

    static void nothingCounts(String what, CrossTables x, int object) {
        counts(what, x, object, 0, -1, -1);
    }

    /** Looks at all sections that tell of an object. */
    static void revisions(String what, CrossTables x, int object, int... want) {
        Check.answers(what + ": revision(" + object + ", -1)", want.length, () -> x.revision(object, -1));
        for (int k = 0; k <= want.length; k++) {
            int i = k;
            int due = k < want.length ? want[k] : -1;
            Check.answers(what + ": revision(" + object + ", " + i + ")", due, () -> x.revision(object, i));
        }
    }

    /** Looks at the whole list of the free objects. */
    static void frees(String what, CrossTables x, int... want) {
        Check.answers(what + ": free(-1)", want.length, () -> x.free(-1));
        for (int k = 0; k <= want.length; k++) {
            int i = k;
            int due = k < want.length ? want[k] : -1;
            Check.answers(what + ": free(" + i + ")", due, () -> x.free(i));
        }
    }
}
