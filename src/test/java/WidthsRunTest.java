import java.util.NoSuchElementException;

/** Promises 6 and 7: widths, run. */
public final class WidthsRunTest {
    public static void main(String[] args) {
        widths();
        widthsAreChangedByNoThrow();
        runs();
        Check.end();
    }

    private static void refusesWidths(CrossTables x, int section, int a, int b, int c) {
        Check.refuses("widths(" + section + ", " + a + ", " + b + ", " + c + ")",
                IllegalArgumentException.class, () -> x.widths(section, a, b, c));
    }

    private static void widths() {
        CrossTables x = new CrossTables();
        x.section(0, 10, -1);
        x.section(1, 20, -1);
        Check.refuses("no section -1", NoSuchElementException.class, () -> x.widths(-1, 1, 1, 1));
        Check.refuses("no section 2", NoSuchElementException.class, () -> x.widths(2, 5, 5, 5));
        refusesWidths(x, 0, 1, 1, 1);
        for (int wrong : new int[] {-1, 5, Integer.MIN_VALUE, Integer.MAX_VALUE}) {
            refusesWidths(x, 1, wrong, 1, 1);
            refusesWidths(x, 1, 1, wrong, 1);
            refusesWidths(x, 1, 1, 1, wrong);
        }
        Check.answers("none", 0, () -> x.widths(1, 0, 0, 0));
        Check.answers("all", 12, () -> x.widths(1, 4, 4, 4));
        Check.answers("unlike", 7, () -> x.widths(1, 1, 4, 2));
    }

    private static void widthsAreChangedByNoThrow() {
        CrossTables x = new CrossTables();
        int stream = Maker.stream(x, 20, -1, 1, 2, 3, 4);
        x.run(stream, 7, 1);
        refusesWidths(x, stream, 0, 0, 5);
        x.read(20);
        Maker.counts("1, 2, 1 at first", x, 7, 4, 0x0203, 4);
        x.widths(stream, 1, 1, 1);
        refusesWidths(x, stream, 2, 2, -1);
        x.read(20);
        Maker.counts("1, 1, 1", x, 7, 4, 2, 3);
    }

    private static void runs() {
        CrossTables x = new CrossTables();
        x.section(0, 10, -1);
        x.section(1, 20, -1);
        Check.refuses("no section -1", NoSuchElementException.class, () -> x.run(-1, 0, 1));
        Check.refuses("no section 2", NoSuchElementException.class, () -> x.run(2, -1, 0));
        Check.refuses("a table", IllegalArgumentException.class, () -> x.run(0, 0, 1));
        refusesRuns(x);
        Check.answers("first", 1, () -> x.run(1, 0, 1));
        Check.answers("second", 2, () -> x.run(1, 999, 100));
        for (int i = 3; i <= 6; i++) {
            Check.answers("run " + i, i, () -> x.run(1, 5, 5));
        }
        Check.refuses("a seventh", UnsupportedOperationException.class, () -> x.run(1, 5, 5));
        refusesRuns(x);
    }

    private static void refusesRuns(CrossTables x) {
        for (int first : new int[] {-1, 1000, Integer.MIN_VALUE, Integer.MAX_VALUE}) {
            Check.refuses("run(1, " + first + ", 1)", IllegalArgumentException.class, () -> x.run(1, first, 1));
        }
        for (int many : new int[] {0, -1, 101, Integer.MIN_VALUE, Integer.MAX_VALUE}) {
            Check.refuses("run(1, 0, " + many + ")", IllegalArgumentException.class, () -> x.run(1, 0, many));
        }
    }
}
