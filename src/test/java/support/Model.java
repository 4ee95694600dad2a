import java.nio.charset.StandardCharsets;
import java.util.ArrayList;
import java.util.LinkedHashMap;
import java.util.LinkedHashSet;
import java.util.List;
import java.util.Map;
import java.util.NoSuchElementException;
import java.util.TreeMap;
import java.util.regex.Matcher;
import java.util.regex.Pattern;

/** The document's words once more, with maps, lists and patterns, to be held against the class. */
final class Model {
    private static final long LAST = 9999999999L;
    private static final Pattern TOKEN = Pattern.compile("[^\\x00\\t\\n\\f\\r ]+");
    private static final Pattern NUMBER = Pattern.compile("[0-9]{1,10}");

    private static final class Part {
        int kind;
        long place;
        long before;
        long beside = -1;
        StringBuilder bytes = new StringBuilder();
        int[] widths = {1, 2, 1};
        List<int[]> runs = new ArrayList<>();
        Map<Integer, Integer> values = new LinkedHashMap<>();
    }

    private record Head(int object, int generation) {
    }

    private record Telling(int kind, long place, long generation) {
    }

    private final List<Part> parts = new ArrayList<>();
    private final TreeMap<Long, Head> heads = new TreeMap<>();
    private final LinkedHashSet<Integer> chain = new LinkedHashSet<>();
    private final TreeMap<Integer, Telling> counting = new TreeMap<>();
    private final Map<Integer, LinkedHashSet<Integer>> tellers = new LinkedHashMap<>();
    private final List<long[]> told = new ArrayList<>();

    private static void demand(boolean good) {
        if (!good) {
            throw new IllegalArgumentException();
        }
    }

    private static void room(boolean left) {
        if (!left) {
            throw new UnsupportedOperationException();
        }
    }

    private static void index(boolean good) {
        if (!good) {
            throw new IndexOutOfBoundsException();
        }
    }

    private Part part(int section) {
        if (section < 0 || section >= parts.size()) {
            throw new NoSuchElementException();
        }
        return parts.get(section);
    }

    private int at(long place) {
        for (Part part : parts) {
            if (part.place == place) {
                return parts.indexOf(part);
            }
        }
        return -1;
    }

    int section(int kind, long place, long before) {
        demand((kind == 0 || kind == 1) && place >= 0 && place <= LAST && at(place) < 0 && before >= -1 && before <= LAST);
        room(parts.size() < 12);
        Part part = new Part();
        part.kind = kind;
        part.place = place;
        part.before = before;
        parts.add(part);
        return parts.size() - 1;
    }

    int add(int section, byte b) {
        Part part = part(section);
        room(part.bytes.length() < 300);
        part.bytes.append((char) (b & 255));
        return part.bytes.length();
    }

    byte octet(int section, int i) {
        Part part = part(section);
        if (i < 0 || i >= part.bytes.length()) {
            throw new ArrayIndexOutOfBoundsException();
        }
        return (byte) part.bytes.charAt(i);
    }

    long beside(int section, long place) {
        Part part = part(section);
        demand(part.kind == 0 && place >= -1 && place <= LAST);
        long had = part.beside;
        part.beside = place;
        return had;
    }

    int widths(int section, int a, int b, int c) {
        Part part = part(section);
        demand(part.kind == 1 && a >= 0 && a <= 4 && b >= 0 && b <= 4 && c >= 0 && c <= 4);
        part.widths = new int[] {a, b, c};
        return a + b + c;
    }

    int run(int section, int first, int many) {
        Part part = part(section);
        demand(part.kind == 1 && first >= 0 && first <= 999 && many >= 1 && many <= 100);
        room(part.runs.size() < 6);
        part.runs.add(new int[] {first, many});
        return part.runs.size();
    }

    int key(int section, int key, int value) {
        Part part = part(section);
        demand(key >= 0 && key <= 9);
        return part.values.put(key, value) == null ? 0 : 1;
    }

    int head(long place, int object, int generation) {
        demand(place >= 0 && place <= LAST && object >= 0 && object <= 99 && generation >= 0 && generation <= 99999);
        room(heads.containsKey(place) || heads.size() < 60);
        heads.put(place, new Head(object, generation));
        return heads.size();
    }

    int read(long start) {
        chain.clear();
        counting.clear();
        tellers.clear();
        told.clear();
        if (at(start) < 0) {
            return -1;
        }
        follow(at(start));
        for (int object : List.copyOf(counting.keySet())) {
            judge(object);
        }
        while (told.size() > 200) {
            told.remove(200);
        }
        return counting.size();
    }

    private void tell(int kind, int whose, long number) {
        told.add(new long[] {kind, whose, number});
    }

    private void follow(int section) {
        Part part = parts.get(section);
        chain.add(section);
        int stream = -1;
        if (part.beside != -1) {
            int there = at(part.beside);
            if (there < 0 || parts.get(there).kind == 0) {
                tell(2, section, part.beside);
            } else if (chain.contains(there)) {
                tell(1, section, part.beside);
            } else {
                stream = there;
            }
        }
        rows(section);
        if (stream >= 0) {
            chain.add(stream);
            rows(stream);
        }
        if (part.before != -1) {
            int there = at(part.before);
            if (there < 0) {
                tell(2, section, part.before);
            } else if (chain.contains(there)) {
                tell(1, section, part.before);
            } else {
                follow(there);
            }
        }
    }

    private void rows(int section) {
        if (parts.get(section).kind == 0) {
            table(section);
        } else {
            stream(section);
        }
    }

    private void row(int section, long object, Telling telling) {
        if (object <= 99) {
            counting.putIfAbsent((int) object, telling);
            tellers.computeIfAbsent((int) object, o -> new LinkedHashSet<>()).add(section);
        }
    }

    private void table(int section) {
        String text = parts.get(section).bytes.toString();
        List<String> words = new ArrayList<>();
        List<Integer> begins = new ArrayList<>();
        Matcher matcher = TOKEN.matcher(text);
        while (matcher.find()) {
            words.add(matcher.group());
            begins.add(matcher.start());
        }
        for (int i = 0; i < 4; i++) {
            words.add("");
            begins.add(text.length());
        }
        long turn = 0;
        long due = 0;
        int i = 0;
        while (due > 0 || !words.get(i).isEmpty()) {
            int bad = -1;
            String third = words.get(i + 2);
            boolean row = third.equals("n") || third.equals("f");
            if (!NUMBER.matcher(words.get(i)).matches()) {
                bad = i;
            } else if (!NUMBER.matcher(words.get(i + 1)).matches()) {
                bad = i + 1;
            } else if (row != due > 0 || !row && Long.parseLong(words.get(i + 1)) > 100) {
                bad = i;
            }
            if (bad >= 0) {
                tell(4, section, begins.get(bad));
                return;
            }
            long one = Long.parseLong(words.get(i));
            long two = Long.parseLong(words.get(i + 1));
            if (row) {
                row(section, turn++, new Telling(third.equals("n") ? 2 : 1, one, two));
                due--;
                if (begins.get(i + 3) != begins.get(i) + 20) {
                    tell(3, section, begins.get(i));
                }
                i += 3;
            } else {
                turn = one;
                due = two;
                i += 2;
            }
        }
    }

    private void stream(int section) {
        Part part = parts.get(section);
        byte[] bytes = part.bytes.toString().getBytes(StandardCharsets.ISO_8859_1);
        int at = 0;
        int read = 0;
        for (int[] run : part.runs) {
            for (int object = run[0]; object < run[0] + run[1]; object++) {
                long[] numbers = {1, 0, 0};
                for (int k = 0; k < 3; k++) {
                    for (int j = 0; j < part.widths[k]; j++) {
                        if (at >= bytes.length) {
                            tell(5, section, read);
                            return;
                        }
                        numbers[k] = (j == 0 ? 0 : numbers[k] * 256) + (bytes[at++] & 255);
                    }
                }
                read++;
                if (numbers[0] <= 2) {
                    row(section, object, new Telling((int) numbers[0] + 1, numbers[1], numbers[2]));
                }
            }
        }
    }

    private void judge(int object) {
        Telling telling = counting.get(object);
        if (telling.kind == 1 && object != 0) {
            for (Map.Entry<Long, Head> entry : heads.entrySet()) {
                if (entry.getValue().object == object) {
                    tell(6, object, entry.getKey());
                    break;
                }
            }
        }
        if (telling.kind == 2) {
            Head head = heads.get(telling.place);
            if (head == null || head.object != object || head.generation != telling.generation) {
                counting.put(object, new Telling(4, telling.place, telling.generation));
                tell(7, object, telling.place);
            }
        }
    }

    int kind(int object) {
        index(object >= 0 && object <= 99);
        return counting.containsKey(object) ? counting.get(object).kind : 0;
    }

    long place(int object, int what) {
        index(object >= 0 && object <= 99 && (what == 0 || what == 1));
        Telling telling = counting.get(object);
        return telling == null ? -1 : what == 0 ? telling.place : telling.generation;
    }

    int revision(int object, int i) {
        index(object >= 0 && object <= 99 && i >= -1);
        List<Integer> all = new ArrayList<>(tellers.getOrDefault(object, new LinkedHashSet<>()));
        return i == -1 ? all.size() : i < all.size() ? all.get(i) : -1;
    }

    long told(int i, int what) {
        if (i == -1) {
            return told.size();
        }
        index(i >= 0 && i < told.size() && what >= 0 && what <= 2);
        return told.get(i)[what];
    }

    int free(int i) {
        index(i >= -1);
        LinkedHashSet<Integer> all = new LinkedHashSet<>();
        long next = kind(0) == 1 ? place(0, 0) : 0;
        while (next >= 1 && next <= 99 && kind((int) next) == 1 && all.add((int) next)) {
            next = place((int) next, 0);
        }
        return i == -1 ? all.size() : i < all.size() ? new ArrayList<>(all).get(i) : -1;
    }

    int trailer(int key) {
        demand(key >= 0 && key <= 9);
        for (int section : chain) {
            if (parts.get(section).values.containsKey(key)) {
                return section;
            }
        }
        return -1;
    }

    int value(int section, int key) {
        Part part = part(section);
        demand(key >= 0 && key <= 9);
        return part.values.getOrDefault(key, 0);
    }
}
