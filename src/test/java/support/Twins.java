import java.util.ArrayList;
import java.util.List;
import java.util.function.Supplier;

/**
 * Two objects made alike: one is refused a call, and then both must answer all questions alike. The questions are
 * asked in parts, each of new twins, so that no object is used for more than the 512 calls that are promised.
 */
final class Twins {
    interface Call {
        long on(CrossTables x);
    }

    private record Question(String name, Call call) {
    }

    private static final List<List<Question>> PARTS = List.of(
            ofObjects("kind", (x, object) -> x.kind(object)),
            ofObjects("place 0 of", (x, object) -> x.place(object, 0)),
            ofObjects("place 1 of", (x, object) -> x.place(object, 1)),
            ofObjects("revisions of", (x, object) -> x.revision(object, -1)),
            revisions(), told(), freesTrailersValues(), octets(), changes(),
            reading(100), reading(200), reading(300));

    private Twins() {
    }

    static void refuse(String name, Class<? extends RuntimeException> want, Supplier<CrossTables> maker, Call call) {
        for (List<Question> part : PARTS) {
            CrossTables refused = maker.get();
            CrossTables other = maker.get();
            Check.refuses(name, want, () -> call.on(refused));
            for (Question question : part) {
                String due = Check.outcome(() -> question.call.on(other));
                Check.same(question.name + " behind " + name, due, Check.outcome(() -> question.call.on(refused)));
            }
        }
    }

    private interface OfObject {
        long on(CrossTables x, int object);
    }

    private static List<Question> ofObjects(String name, OfObject call) {
        List<Question> all = new ArrayList<>();
        for (int i = 0; i < 100; i++) {
            int object = i;
            all.add(new Question(name + " " + object, x -> call.on(x, object)));
        }
        return all;
    }

    private static List<Question> revisions() {
        List<Question> all = new ArrayList<>();
        for (int k = 0; k < 80; k++) {
            int object = k / 4;
            int i = k % 4;
            all.add(new Question("revision(" + object + ", " + i + ")", x -> x.revision(object, i)));
        }
        return all;
    }

    private static List<Question> told() {
        List<Question> all = new ArrayList<>();
        all.add(new Question("told(-1, 0)", x -> x.told(-1, 0)));
        for (int k = 0; k < 60; k++) {
            int i = k / 3;
            int what = k % 3;
            all.add(new Question("told(" + i + ", " + what + ")", x -> x.told(i, what)));
        }
        return all;
    }

    private static List<Question> freesTrailersValues() {
        List<Question> all = new ArrayList<>();
        for (int k = -1; k < 20; k++) {
            int i = k;
            all.add(new Question("free(" + i + ")", x -> x.free(i)));
        }
        for (int k = 0; k < 10; k++) {
            int key = k;
            all.add(new Question("trailer(" + key + ")", x -> x.trailer(key)));
            for (int section : new int[] {0, 1, 2, 3, 11}) {
                all.add(new Question("value(" + section + ", " + key + ")", x -> x.value(section, key)));
            }
        }
        return all;
    }

    private static List<Question> octets() {
        List<Question> all = new ArrayList<>();
        for (int section : new int[] {0, 1, 2, 11}) {
            for (int i : new int[] {0, 1, 2, 3, 4, 5, 7, 8, 9, 10, 34, 35, 36, 63, 64, 298, 299, 300}) {
                all.add(new Question("octet(" + section + ", " + i + ")", x -> x.octet(section, i)));
            }
        }
        return all;
    }

    /** What answers with how many there are, or with what there was. */
    private static List<Question> changes() {
        List<Question> all = new ArrayList<>();
        for (int k = 0; k < 13; k++) {
            int section = k;
            all.add(new Question("beside(" + section + ", -1)", x -> x.beside(section, -1)));
            all.add(new Question("add(" + section + ", 1)", x -> x.add(section, (byte) 1)));
            all.add(new Question("run(" + section + ", 0, 1)", x -> x.run(section, 0, 1)));
            all.add(new Question("key(" + section + ", 0, 1)", x -> x.key(section, 0, 1)));
            all.add(new Question("key(" + section + ", 9, 1)", x -> x.key(section, 9, 1)));
        }
        all.add(new Question("head(0, 1, 1)", x -> x.head(0, 1, 1)));
        all.add(new Question("head(5, 1, 1)", x -> x.head(5, 1, 1)));
        all.add(new Question("section(0, 1, -1)", x -> x.section(0, 1, -1)));
        return all;
    }

    /** What a new reading makes of bytes, heads, widths and runs, which cannot be asked for themselves. */
    private static List<Question> reading(long start) {
        List<Question> all = new ArrayList<>();
        all.add(new Question("read(" + start + ")", x -> x.read(start)));
        all.add(new Question("told(-1, 0)", x -> x.told(-1, 0)));
        for (int k = 0; k < 45; k++) {
            int i = k / 3;
            int what = k % 3;
            all.add(new Question("read(" + start + "): told(" + i + ", " + what + ")", x -> x.told(i, what)));
        }
        for (int k = 0; k < 15; k++) {
            int object = k;
            all.add(new Question("read(" + start + "): kind(" + object + ")", x -> x.kind(object)));
            all.add(new Question("read(" + start + "): place(" + object + ", 0)", x -> x.place(object, 0)));
            all.add(new Question("read(" + start + "): place(" + object + ", 1)", x -> x.place(object, 1)));
        }
        return all;
    }
}
