import java.util.NoSuchElementException;

/** Promise 2: section. */
public final class SectionTest {
    public static void main(String[] args) {
        wrongInputs();
        edges();
        twelve();
        Check.end();
    }

    private static void refusesArgument(CrossTables x, int kind, long place, long before) {
        Check.refuses("section(" + kind + ", " + place + ", " + before + ")",
                IllegalArgumentException.class, () -> x.section(kind, place, before));
    }

    private static void wrongInputs() {
        CrossTables x = new CrossTables();
        refusesArgument(x, -1, 0, -1);
        refusesArgument(x, 2, 0, -1);
        refusesArgument(x, Integer.MIN_VALUE, 0, -1);
        refusesArgument(x, 0, -1, -1);
        refusesArgument(x, 0, Maker.LAST + 1, -1);
        refusesArgument(x, 0, Long.MIN_VALUE, -1);
        refusesArgument(x, 0, Long.MAX_VALUE, -1);
        refusesArgument(x, 0, 0, -2);
        refusesArgument(x, 0, 0, Maker.LAST + 1);
        refusesArgument(x, 0, 0, Long.MIN_VALUE);
        Check.answers("nothing was made", 0, () -> x.section(0, 7, -1));
        refusesArgument(x, 0, 7, -1);
        refusesArgument(x, 1, 7, -1);
        Check.refuses("no section 1", NoSuchElementException.class, () -> x.value(1, 0));
    }

    private static void edges() {
        CrossTables x = new CrossTables();
        Check.answers("first place", 0, () -> x.section(0, 0, Maker.LAST));
        Check.answers("last place, before itself", 1, () -> x.section(1, Maker.LAST, Maker.LAST));
        Check.answers("before 0", 2, () -> x.section(0, 1, 0));
        Check.refuses("without bytes", ArrayIndexOutOfBoundsException.class, () -> x.octet(0, 0));
        Check.answers("nothing beside at first", -1, () -> x.beside(0, -1));
        Check.answers("no value at first", 0, () -> x.key(0, 0, 1));
        Check.answers("no run at first", 1, () -> x.run(1, 0, 1));
        Check.answers("read of a section without bytes", 0, () -> x.read(1));
    }

    private static void twelve() {
        CrossTables x = new CrossTables();
        for (int i = 0; i < 12; i++) {
            int number = i;
            Check.answers("section " + i, i, () -> x.section(number % 2, number, number - 1));
        }
        Check.refuses("a thirteenth", UnsupportedOperationException.class, () -> x.section(0, 12, -1));
        refusesArgument(x, 2, 12, -1);
        refusesArgument(x, 0, 11, -1);
        refusesArgument(x, 0, 12, -2);
        Check.answers("none is at its place", -1, () -> x.read(12));
        Check.answers("the twelfth is there", 1, () -> x.add(11, (byte) 5));
        Check.refuses("no section 12", NoSuchElementException.class, () -> x.add(12, (byte) 5));
    }
}
