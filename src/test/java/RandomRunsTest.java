import java.util.Random;

/** Many runs of calls, good and wrong ones, always the same: the class and the model must answer alike. */
public final class RandomRunsTest {
    private static final int RUNS = 8000;
    private static final int CALLS = 512;
    private static final long[] PLACES = {0, 1, 2, 3, 5, 8, 13, 40, 77, 300, 9999999998L, 9999999999L};
    private static final long[] WRONG_PLACES = {-1, -2, 10000000000L, Long.MIN_VALUE, Long.MAX_VALUE};
    private static final int[] WRONG_NUMBERS = {-1, -2, 10, 12, 60, 100, 101, 300, 1000, 100000,
        Integer.MIN_VALUE, Integer.MAX_VALUE};

    private final Random random;
    private final int run;
    private final CrossTables real = new CrossTables();
    private final Model model = new Model();
    private final int wrongShare;
    private int calls = 0;
    private int sections = 0;

    private RandomRunsTest(int run) {
        this.run = run;
        random = new Random(run);
        wrongShare = run % 3 == 0 ? 10 : 200;
    }

    public static void main(String[] args) {
        Check.sentence("the whole document", RandomRunsTest::allRuns);
        Check.end();
    }

    private static void allRuns() {
        for (int run = 0; run < RUNS; run++) {
            new RandomRunsTest(run).go();
        }
    }

    private void go() {
        int rounds = 1 + random.nextInt(3);
        for (int round = 0; round < rounds; round++) {
            int many = 1 + random.nextInt(4);
            for (int i = 0; i < many; i++) {
                makeSection();
            }
            makeHeads();
            readAndLook();
        }
        while (calls < CALLS) {
            anyCall();
        }
    }

    private void both(String what, Check.Call one, Check.Call other) {
        if (calls >= CALLS) {
            return;
        }
        calls++;
        Check.same("run " + run + ", call " + calls + ", " + what, Check.outcome(other), Check.outcome(one));
    }

    private boolean wrong() {
        return random.nextInt(wrongShare) == 0;
    }

    private int number(int bound) {
        return wrong() ? WRONG_NUMBERS[random.nextInt(WRONG_NUMBERS.length)] : random.nextInt(bound);
    }

    private long place() {
        return wrong() ? WRONG_PLACES[random.nextInt(WRONG_PLACES.length)] : PLACES[random.nextInt(PLACES.length)];
    }

    private long placeOrNone() {
        return random.nextInt(5) == 0 ? -1 : place();
    }

    private void makeSection() {
        int kind = random.nextInt(2);
        section(kind, place(), placeOrNone());
        int made = Math.max(0, sections - 1);
        if (kind == 0) {
            if (random.nextInt(2) == 0) {
                beside(made, place());
            }
            text(made, tableText());
        } else {
            fillStream(made);
        }
        if (random.nextInt(2) == 0) {
            key(made, number(10), random.nextInt(3));
        }
    }

    private void text(int section, String text) {
        for (int i = 0; i < text.length() && calls < CALLS - 60; i++) {
            add(section, (byte) text.charAt(i));
        }
    }

    private String tableText() {
        StringBuilder text = new StringBuilder();
        int beginnings = random.nextInt(4);
        boolean neat = random.nextInt(2) == 0;
        for (int i = 0; i < beginnings; i++) {
            int rows = random.nextInt(4);
            text.append(someObject()).append(' ').append(noisy(rows)).append('\n');
            for (int row = 0; row < noisyCount(rows); row++) {
                text.append(neat ? neatRow() : looseRow());
            }
        }
        if (random.nextInt(6) == 0 && text.length() > 0) {
            text.setCharAt(random.nextInt(text.length()), (char) random.nextInt(256));
        }
        if (random.nextInt(6) == 0) {
            text.setLength(random.nextInt(text.length() + 1));
        }
        return text.toString();
    }

    private long noisy(long number) {
        return random.nextInt(12) == 0 ? PLACES[random.nextInt(PLACES.length)] : number;
    }

    private int noisyCount(int count) {
        return random.nextInt(8) == 0 ? random.nextInt(4) : count;
    }

    private long someObject() {
        int choice = random.nextInt(20);
        if (choice == 0) {
            return 97 + random.nextInt(5);
        }
        return choice == 1 ? PLACES[random.nextInt(PLACES.length)] : random.nextInt(6);
    }

    private String neatRow() {
        char mark = random.nextBoolean() ? 'n' : 'f';
        return String.format("%010d %05d %c \n", noisy(random.nextInt(9)), random.nextInt(2), mark);
    }

    private String looseRow() {
        String[] blanks = {" ", "\n", "\t", "  ", "\r\n", "\f", "\0"};
        StringBuilder text = new StringBuilder();
        text.append(noisy(random.nextInt(9))).append(blanks[random.nextInt(blanks.length)]);
        text.append(random.nextInt(2)).append(blanks[random.nextInt(blanks.length)]);
        String[] marks = {"n", "f", "n", "f", "n", "f", "x", "nf", "1", ""};
        return text.append(marks[random.nextInt(marks.length)]).append(blanks[random.nextInt(blanks.length)]).toString();
    }

    private void fillStream(int section) {
        if (random.nextInt(2) == 0) {
            widths(section, number(3), number(3), number(3));
        }
        int runs = random.nextInt(4);
        for (int i = 0; i < runs; i++) {
            run(section, random.nextInt(8) == 0 ? 97 + random.nextInt(10) : number(6), 1 + number(4));
        }
        int bytes = random.nextInt(40);
        for (int i = 0; i < bytes && calls < CALLS - 60; i++) {
            add(section, (byte) (random.nextInt(12) == 0 ? random.nextInt(256) : random.nextInt(3)));
        }
    }

    private void makeHeads() {
        int many = random.nextInt(8);
        for (int i = 0; i < many && calls < CALLS; i++) {
            head(random.nextInt(9), number(6), number(2));
        }
    }

    private void readAndLook() {
        read(place());
        for (int object = 0; object < 9 && calls < CALLS; object++) {
            look(object);
        }
        look(97 + random.nextInt(3));
        int told = (int) model.told(-1, 0);
        for (int i = -1; i <= told && calls < CALLS; i++) {
            told(i, 0);
            told(i, 1);
            told(i, 2);
        }
        for (int i = -1; i < 4; i++) {
            free(i);
            trailer(i + 1);
        }
    }

    private void look(int object) {
        kind(object);
        place(object, 0);
        place(object, 1);
        for (int i = -1; i < 3; i++) {
            revision(object, i);
        }
    }

    private void anyCall() {
        switch (random.nextInt(16)) {
            case 0 -> section(number(2), place(), placeOrNone());
            case 1 -> add(number(4), (byte) random.nextInt(256));
            case 2 -> octet(number(4), number(20));
            case 3 -> beside(number(4), placeOrNone());
            case 4 -> widths(number(4), number(5), number(5), number(5));
            case 5 -> run(number(4), number(1000), number(102));
            case 6 -> key(number(4), number(10), random.nextInt());
            case 7 -> head(place(), number(100), number(3));
            case 8 -> read(place());
            case 9 -> kind(number(100));
            case 10 -> place(number(100), number(2));
            case 11 -> revision(number(100), number(3) - 1);
            case 12 -> told(number(10) - 1, number(3));
            case 13 -> free(number(5) - 1);
            case 14 -> trailer(number(10));
            default -> value(number(4), number(10));
        }
    }

    private static String call(String name, long... values) {
        StringBuilder text = new StringBuilder(name).append('(');
        for (int i = 0; i < values.length; i++) {
            text.append(i == 0 ? "" : ", ").append(values[i]);
        }
        return text.append(')').toString();
    }

    private void section(int kind, long place, long before) {
        both(call("section", kind, place, before), () -> real.section(kind, place, before), () -> {
            int number = model.section(kind, place, before);
            sections = number + 1;
            return number;
        });
    }

    private void add(int section, byte b) {
        both(call("add", section, b), () -> real.add(section, b), () -> model.add(section, b));
    }

    private void octet(int section, int i) {
        both(call("octet", section, i), () -> real.octet(section, i), () -> model.octet(section, i));
    }

    private void beside(int section, long place) {
        both(call("beside", section, place), () -> real.beside(section, place), () -> model.beside(section, place));
    }

    private void widths(int section, int a, int b, int c) {
        both(call("widths", section, a, b, c), () -> real.widths(section, a, b, c), () -> model.widths(section, a, b, c));
    }

    private void run(int section, int first, int many) {
        both(call("run", section, first, many), () -> real.run(section, first, many), () -> model.run(section, first, many));
    }

    private void key(int section, int key, int value) {
        both(call("key", section, key, value), () -> real.key(section, key, value), () -> model.key(section, key, value));
    }

    private void head(long place, int object, int generation) {
        both(call("head", place, object, generation),
                () -> real.head(place, object, generation), () -> model.head(place, object, generation));
    }

    private void read(long start) {
        both(call("read", start), () -> real.read(start), () -> model.read(start));
    }

    private void kind(int object) {
        both(call("kind", object), () -> real.kind(object), () -> model.kind(object));
    }

    private void place(int object, int what) {
        both(call("place", object, what), () -> real.place(object, what), () -> model.place(object, what));
    }

    private void revision(int object, int i) {
        both(call("revision", object, i), () -> real.revision(object, i), () -> model.revision(object, i));
    }

    private void told(int i, int what) {
        both(call("told", i, what), () -> real.told(i, what), () -> model.told(i, what));
    }

    private void free(int i) {
        both(call("free", i), () -> real.free(i), () -> model.free(i));
    }

    private void trailer(int key) {
        both(call("trailer", key), () -> real.trailer(key), () -> model.trailer(key));
    }

    private void value(int section, int key) {
        both(call("value", section, key), () -> real.value(section, key), () -> model.value(section, key));
    }
}
