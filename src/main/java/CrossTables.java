import java.util.Arrays;
import java.util.NoSuchElementException;

/**
 * Cross tables of a file that was changed again and again: tables of rows and
 * streams of fields, one before the other, some with a stream beside.
 */
public final class CrossTables {
    private static final int TABLE = 0;
    private static final int STREAM = 1;

    private static final int MOST_SECTIONS = 12;
    private static final int MOST_BYTES = 300;
    private static final int MOST_TOKENS = 150;
    private static final int MOST_RUNS = 6;
    private static final int MOST_HEADS = 60;
    private static final int MOST_TOLD = 200;
    private static final int MOST_ROWS = 100;
    private static final int MOST_DIGITS = 10;
    private static final int MOST_WIDTH = 4;
    private static final int OBJECTS = 100;
    private static final int KEYS = 10;
    private static final int LAST_RUN_FIRST = 999;
    private static final int LAST_GENERATION = 99999;
    private static final long LAST_PLACE = 9999999999L;
    private static final int TABLE_ROW_BYTES = 20;

    private static final int NONE = -1;
    private static final int COUNT = -1;

    private static final int NOTHING = 0;
    private static final int FREE = 1;
    private static final int USED = 2;
    private static final int WITHIN = 3;
    private static final int WRONG = 4;

    private static final int TOLD_RING = 1;
    private static final int TOLD_NOWHERE = 2;
    private static final int TOLD_ODD_ROW = 3;
    private static final int TOLD_WRONG_TABLE = 4;
    private static final int TOLD_ROW_PAST = 5;
    private static final int TOLD_FREE_WITH_HEAD = 6;
    private static final int TOLD_WRONG_OBJECT = 7;

    private final Section[] sections;
    private int sectionCount;
    private final Heads heads;
    private final Reading reading;
    private final TableReader tableReader;

    public CrossTables() {
        sections = new Section[MOST_SECTIONS];
        sectionCount = 0;
        heads = new Heads();
        reading = new Reading();
        tableReader = new TableReader();
    }

    public int section(int kind, long place, long before)
            throws IllegalArgumentException, UnsupportedOperationException {
        if (kind != TABLE && kind != STREAM) {
            throw new IllegalArgumentException("kind is not 0 or 1");
        }
        if (!isPlace(place) || numberAt(place) != NONE) {
            throw new IllegalArgumentException("place is out of range or taken");
        }
        if (!isPlaceOrNone(before)) {
            throw new IllegalArgumentException("before is out of range");
        }
        if (sectionCount >= MOST_SECTIONS) {
            throw new UnsupportedOperationException("there are 12 sections");
        }
        int number = sectionCount;
        sections[number] = new Section(kind, place, before);
        sectionCount = number + 1;
        return number;
    }

    public int add(int section, byte b) throws NoSuchElementException, UnsupportedOperationException {
        Section changed = existing(section);
        if (changed.byteCount >= MOST_BYTES) {
            throw new UnsupportedOperationException("the section has 300 bytes");
        }
        changed.bytes[changed.byteCount] = b;
        changed.byteCount++;
        return changed.byteCount;
    }

    public byte octet(int section, int i) throws NoSuchElementException, ArrayIndexOutOfBoundsException {
        Section asked = existing(section);
        if (i < 0 || i >= asked.byteCount) {
            // Promise 4 names this class, and rule 6 of LANGUAGE.md wants exactly what the document says.
            throw new ArrayIndexOutOfBoundsException("the section has no such byte");
        }
        return asked.bytes[i];
    }

    public long beside(int section, long place) throws NoSuchElementException, IllegalArgumentException {
        Section table = existing(section);
        if (table.kind != TABLE || !isPlaceOrNone(place)) {
            throw new IllegalArgumentException("no table, or place is out of range");
        }
        long had = table.beside;
        table.beside = place;
        return had;
    }

    public int widths(int section, int a, int b, int c) throws NoSuchElementException, IllegalArgumentException {
        Section stream = existing(section);
        if (stream.kind != STREAM || !isWidth(a) || !isWidth(b) || !isWidth(c)) {
            throw new IllegalArgumentException("no stream, or a width is out of range");
        }
        stream.kindWidth = a;
        stream.placeWidth = b;
        stream.generationWidth = c;
        return stream.rowWidth();
    }

    public int run(int section, int first, int many)
            throws NoSuchElementException, IllegalArgumentException, UnsupportedOperationException {
        Section stream = existing(section);
        if (stream.kind != STREAM || first < 0 || first > LAST_RUN_FIRST || many < 1 || many > MOST_ROWS) {
            throw new IllegalArgumentException("no stream, or first or many is out of range");
        }
        if (stream.runCount >= MOST_RUNS) {
            throw new UnsupportedOperationException("the stream has 6 runs");
        }
        stream.runFirsts[stream.runCount] = first;
        stream.runLengths[stream.runCount] = many;
        stream.runCount++;
        return stream.runCount;
    }

    public int key(int section, int key, int value) throws NoSuchElementException, IllegalArgumentException {
        Section changed = existing(section);
        if (!isKey(key)) {
            throw new IllegalArgumentException("key is not 0 .. 9");
        }
        int had = changed.hasValue[key] ? 1 : 0;
        changed.hasValue[key] = true;
        changed.values[key] = value;
        return had;
    }

    public int head(long place, int object, int generation)
            throws IllegalArgumentException, UnsupportedOperationException {
        if (!isPlace(place) || !isObject(object) || generation < 0 || generation > LAST_GENERATION) {
            throw new IllegalArgumentException("place, object or generation is out of range");
        }
        if (!heads.hasRoomAt(place)) {
            throw new UnsupportedOperationException("there are 60 heads");
        }
        heads.put(place, object, generation);
        return heads.count;
    }

    public int read(long start) {
        reading.clear();
        int first = numberAt(start);
        if (first == NONE) {
            return NONE;
        }
        goAlongChain(first);
        judgeObjects();
        reading.listFree();
        return reading.counted;
    }

    public int kind(int object) throws IndexOutOfBoundsException {
        if (!isObject(object)) {
            throw new IndexOutOfBoundsException("object is not 0 .. 99");
        }
        return reading.kinds[object];
    }

    public long place(int object, int what) throws IndexOutOfBoundsException {
        if (!isObject(object) || what < 0 || what > 1) {
            throw new IndexOutOfBoundsException("object is not 0 .. 99, or what is not 0, 1");
        }
        if (reading.kinds[object] == NOTHING) {
            return NONE;
        }
        return what == 0 ? reading.places[object] : reading.generations[object];
    }

    public int revision(int object, int i) throws IndexOutOfBoundsException {
        if (!isObject(object) || i < COUNT) {
            throw new IndexOutOfBoundsException("object is not 0 .. 99, or i is below -1");
        }
        return i == COUNT ? Integer.bitCount(reading.tellers[object]) : reading.tellerOf(object, i);
    }

    public long told(int i, int what) throws IndexOutOfBoundsException {
        Findings findings = reading.findings;
        if (i == COUNT) {
            return findings.count;
        }
        if (i < 0 || i >= findings.count || what < 0 || what > 2) {
            throw new IndexOutOfBoundsException("nothing such was told");
        }
        if (what == 0) {
            return findings.kinds[i];
        }
        return what == 1 ? findings.owners[i] : findings.numbers[i];
    }

    public int free(int i) throws IndexOutOfBoundsException {
        if (i < COUNT) {
            throw new IndexOutOfBoundsException("i is below -1");
        }
        if (i == COUNT) {
            return reading.freeCount;
        }
        return i < reading.freeCount ? reading.freeObjects[i] : NONE;
    }

    public int trailer(int key) throws IllegalArgumentException {
        if (!isKey(key)) {
            throw new IllegalArgumentException("key is not 0 .. 9");
        }
        for (int i = 0; i < reading.chainLength; i++) {
            int number = reading.chain[i];
            if (sections[number].hasValue[key]) {
                return number;
            }
        }
        return NONE;
    }

    public int value(int section, int key) throws NoSuchElementException, IllegalArgumentException {
        Section asked = existing(section);
        if (!isKey(key)) {
            throw new IllegalArgumentException("key is not 0 .. 9");
        }
        return asked.values[key];
    }

    private static boolean isPlace(long place) {
        return place >= 0 && place <= LAST_PLACE;
    }

    private static boolean isPlaceOrNone(long place) {
        return place == NONE || isPlace(place);
    }

    private static boolean isObject(int object) {
        return object >= 0 && object < OBJECTS;
    }

    private static boolean isKey(int key) {
        return key >= 0 && key < KEYS;
    }

    private static boolean isWidth(int width) {
        return width >= 0 && width <= MOST_WIDTH;
    }

    private Section existing(int number) {
        if (number < 0 || number >= sectionCount) {
            throw new NoSuchElementException("there is no such section");
        }
        return sections[number];
    }

    private int numberAt(long place) {
        for (int number = 0; number < sectionCount; number++) {
            if (sections[number].place == place) {
                return number;
            }
        }
        return NONE;
    }

    /** Each step brings a section that the chain did not have, so the sections bound the steps. */
    private void goAlongChain(int first) {
        int number = first;
        for (int step = 0; step < MOST_SECTIONS && number != NONE; step++) {
            readWithBeside(number);
            number = nextOrTell(number, sections[number].before, false);
        }
    }

    /** What is beside is looked at before the rows, as that is the order in which both are told. */
    private void readWithBeside(int number) {
        reading.enter(number);
        int stream = nextOrTell(number, sections[number].beside, true);
        readRows(number);
        if (stream != NONE) {
            reading.enter(stream);
            readRows(stream);
        }
    }

    /** A table beside is nowhere even if the chain has it, so that is asked before the ring. */
    private int nextOrTell(int from, long place, boolean streamsOnly) {
        if (place == NONE) {
            return NONE;
        }
        int number = numberAt(place);
        if (number == NONE || (streamsOnly && sections[number].kind != STREAM)) {
            reading.findings.keep(TOLD_NOWHERE, from, place);
            return NONE;
        }
        if (reading.chainHas(number)) {
            reading.findings.keep(TOLD_RING, from, place);
            return NONE;
        }
        return number;
    }

    private void readRows(int number) {
        Section section = sections[number];
        if (section.kind == TABLE) {
            tableReader.readTable(section, number, reading);
        } else {
            readStream(section, number);
        }
    }

    private void readStream(Section stream, int number) {
        int width = stream.rowWidth();
        int rows = 0;
        for (int run = 0; run < stream.runCount; run++) {
            for (int i = 0; i < stream.runLengths[run]; i++) {
                int from = rows * width;
                if (stream.byteCount - from < width) {
                    reading.findings.keep(TOLD_ROW_PAST, number, rows);
                    return;
                }
                readStreamRow(stream, stream.runFirsts[run] + i, from);
                rows++;
            }
        }
    }

    private void readStreamRow(Section stream, int object, int from) {
        int placeFrom = from + stream.kindWidth;
        int generationFrom = placeFrom + stream.placeWidth;
        int kind = stream.kindWidth == 0 ? USED : kindOfNumber(stream.numberOfBytes(from, stream.kindWidth));
        if (kind != NOTHING) {
            long place = stream.numberOfBytes(placeFrom, stream.placeWidth);
            long generation = stream.numberOfBytes(generationFrom, stream.generationWidth);
            reading.tell(object, kind, place, generation);
        }
    }

    private static int kindOfNumber(long number) {
        if (number == 0) {
            return FREE;
        }
        if (number == 1) {
            return USED;
        }
        return number == 2 ? WITHIN : NOTHING;
    }

    private void judgeObjects() {
        for (int object = 0; object < OBJECTS; object++) {
            if (reading.kinds[object] == FREE) {
                judgeFree(object);
            } else if (reading.kinds[object] == USED) {
                judgeUsed(object);
            }
        }
    }

    private void judgeFree(int object) {
        long place = heads.leastPlaceOf(object);
        if (object != 0 && place != NONE) {
            reading.findings.keep(TOLD_FREE_WITH_HEAD, object, place);
        }
    }

    private void judgeUsed(int object) {
        long place = reading.places[object];
        if (!heads.hasHead(place, object, reading.generations[object])) {
            reading.kinds[object] = WRONG;
            reading.findings.keep(TOLD_WRONG_OBJECT, object, place);
        }
    }

    /** What a section was given, and how its bytes are taken apart. */
    private static final class Section {
        private final int kind;
        private final long place;
        private final long before;
        private long beside;
        private final byte[] bytes;
        private int byteCount;
        private int kindWidth;
        private int placeWidth;
        private int generationWidth;
        private final int[] runFirsts;
        private final int[] runLengths;
        private int runCount;
        private final boolean[] hasValue;
        private final int[] values;

        private Section(int kind, long place, long before) {
            this.kind = kind;
            this.place = place;
            this.before = before;
            beside = NONE;
            bytes = new byte[MOST_BYTES];
            byteCount = 0;
            kindWidth = 1;
            placeWidth = 2;
            generationWidth = 1;
            runFirsts = new int[MOST_RUNS];
            runLengths = new int[MOST_RUNS];
            runCount = 0;
            hasValue = new boolean[KEYS];
            values = new int[KEYS];
        }

        private int rowWidth() {
            return kindWidth + placeWidth + generationWidth;
        }

        /** The callers look whether a whole row is there; a byte that is not is left out here. */
        private long numberOfBytes(int from, int width) {
            long number = 0;
            for (int at = from; at < from + width && at < byteCount; at++) {
                number = (number << 8) | (bytes[at] & 0xFF);
            }
            return number;
        }
    }

    /** The heads, at most one at a place. */
    private static final class Heads {
        private final long[] places;
        private final int[] objects;
        private final int[] generations;
        private int count;

        private Heads() {
            places = new long[MOST_HEADS];
            objects = new int[MOST_HEADS];
            generations = new int[MOST_HEADS];
            count = 0;
        }

        /** The index of the head at a place, the count when none stands there. */
        private int indexOf(long place) {
            int index = 0;
            while (index < count && places[index] != place) {
                index++;
            }
            return index;
        }

        private boolean hasRoomAt(long place) {
            return indexOf(place) < MOST_HEADS;
        }

        private void put(long place, int object, int generation) {
            int index = indexOf(place);
            if (index >= MOST_HEADS) {
                return;
            }
            places[index] = place;
            objects[index] = object;
            generations[index] = generation;
            count = Math.max(count, index + 1);
        }

        private boolean hasHead(long place, int object, long generation) {
            int index = indexOf(place);
            return index < count && objects[index] == object && generations[index] == generation;
        }

        private long leastPlaceOf(int object) {
            long least = NONE;
            for (int index = 0; index < count; index++) {
                if (objects[index] == object && (least == NONE || places[index] < least)) {
                    least = places[index];
                }
            }
            return least;
        }
    }

    /** All that is told of a reading, in the order in which it was found. */
    private static final class Findings {
        private final int[] kinds;
        private final int[] owners;
        private final long[] numbers;
        private int count;

        private Findings() {
            kinds = new int[MOST_TOLD];
            owners = new int[MOST_TOLD];
            numbers = new long[MOST_TOLD];
            count = 0;
        }

        private void clear() {
            count = 0;
        }

        private void keep(int kind, int owner, long number) {
            if (count >= MOST_TOLD) {
                return;
            }
            kinds[count] = kind;
            owners[count] = owner;
            numbers[count] = number;
            count++;
        }
    }

    /** The chain of the latest reading, and what it tells. */
    private static final class Reading {
        private final int[] chain;
        private int chainLength;
        private final int[] kinds;
        private final long[] places;
        private final long[] generations;
        /** Of each object a bit for each section that tells of it, by where it is in the chain. */
        private final int[] tellers;
        private int counted;
        private final int[] freeObjects;
        private int freeCount;
        private final Findings findings;

        private Reading() {
            chain = new int[MOST_SECTIONS];
            chainLength = 0;
            kinds = new int[OBJECTS];
            places = new long[OBJECTS];
            generations = new long[OBJECTS];
            tellers = new int[OBJECTS];
            counted = 0;
            freeObjects = new int[OBJECTS];
            freeCount = 0;
            findings = new Findings();
        }

        private void clear() {
            chainLength = 0;
            Arrays.fill(kinds, NOTHING);
            Arrays.fill(tellers, 0);
            counted = 0;
            freeCount = 0;
            findings.clear();
        }

        private void enter(int number) {
            if (chainLength < MOST_SECTIONS) {
                chain[chainLength] = number;
                chainLength++;
            }
        }

        private boolean chainHas(int number) {
            for (int i = 0; i < chainLength; i++) {
                if (chain[i] == number) {
                    return true;
                }
            }
            return false;
        }

        /** A row of the section that the chain has last; only the first row of an object counts. */
        private void tell(long object, int kind, long place, long generation) {
            if (object < 0 || object >= OBJECTS || chainLength == 0) {
                return;
            }
            int index = (int) object;
            tellers[index] |= 1 << (chainLength - 1);
            if (kinds[index] == NOTHING) {
                kinds[index] = kind;
                places[index] = place;
                generations[index] = generation;
                counted++;
            }
        }

        private int tellerOf(int object, int i) {
            int left = i;
            for (int at = 0; at < chainLength; at++) {
                if ((tellers[object] & (1 << at)) != 0) {
                    if (left == 0) {
                        return chain[at];
                    }
                    left--;
                }
            }
            return NONE;
        }

        private void listFree() {
            long next = kinds[0] == FREE ? places[0] : 0;
            while (freeCount < OBJECTS && isFreeAndNotListed(next)) {
                freeObjects[freeCount] = (int) next;
                freeCount++;
                next = places[(int) next];
            }
        }

        /** Object 0 is where the list begins, so it ends there too. */
        private boolean isFreeAndNotListed(long object) {
            if (object <= 0 || object >= OBJECTS || kinds[(int) object] != FREE) {
                return false;
            }
            for (int i = 0; i < freeCount; i++) {
                if (freeObjects[i] == object) {
                    return false;
                }
            }
            return true;
        }
    }

    /** The tokens of the table that is being read. */
    private static final class Tokens {
        private final int[] begins;
        private final int[] ends;
        private int count;
        private int byteCount;

        private Tokens() {
            begins = new int[MOST_TOKENS];
            ends = new int[MOST_TOKENS];
            count = 0;
            byteCount = 0;
        }

        private void split(Section table) {
            count = 0;
            byteCount = table.byteCount;
            int begin = NONE;
            for (int at = 0; at <= byteCount; at++) {
                boolean outside = at == byteCount || isBlank(table.bytes[at]);
                if (outside && begin != NONE) {
                    keep(begin, at);
                    begin = NONE;
                } else if (!outside && begin == NONE) {
                    begin = at;
                }
            }
        }

        private void keep(int begin, int end) {
            if (count < MOST_TOKENS) {
                begins[count] = begin;
                ends[count] = end;
                count++;
            }
        }

        /** Behind the last token that is the count of bytes: so is the end told, and measured. */
        private int beginOf(int token) {
            return token >= 0 && token < count ? begins[token] : byteCount;
        }

        /** NONE when the token is no number, or there is none. */
        private long numberOf(Section table, int token) {
            if (token < 0 || token >= count || ends[token] - begins[token] > MOST_DIGITS) {
                return NONE;
            }
            long number = 0;
            for (int at = begins[token]; at < ends[token]; at++) {
                int digit = table.bytes[at] - '0';
                if (digit < 0 || digit > 9) {
                    return NONE;
                }
                number = number * 10 + digit;
            }
            return number;
        }

        /** What a row that ends with this token makes its object, NOTHING when it ends no row. */
        private int kindOf(Section table, int token) {
            if (token < 0 || token >= count || ends[token] - begins[token] != 1) {
                return NOTHING;
            }
            byte mark = table.bytes[begins[token]];
            if (mark == 'n') {
                return USED;
            }
            return mark == 'f' ? FREE : NOTHING;
        }

        private static boolean isBlank(byte b) {
            return b == 0 || b == 9 || b == 10 || b == 12 || b == 13 || b == 32;
        }
    }

    /** Reads the rows of a table: beginnings, and the rows that are due behind each. */
    private static final class TableReader {
        private final Tokens tokens;
        private long turn;
        private long due;

        private TableReader() {
            tokens = new Tokens();
            turn = 0;
            due = 0;
        }

        /** Each part takes two tokens at least, or is the last, so the tokens bound the parts. */
        private void readTable(Section table, int number, Reading reading) {
            tokens.split(table);
            turn = 0;
            due = 0;
            int token = 0;
            for (int parts = 0; parts <= MOST_TOKENS; parts++) {
                if (token >= tokens.count && due == 0) {
                    return;
                }
                int wrong = wrongToken(table, token);
                if (wrong != NONE) {
                    reading.findings.keep(TOLD_WRONG_TABLE, number, tokens.beginOf(wrong));
                    return;
                }
                token = readPart(table, number, token, reading);
            }
        }

        /** The token at which this part is told as wrong, NONE when it is a row or a beginning that may come. */
        private int wrongToken(Section table, int first) {
            int second = first + 1;
            if (tokens.numberOf(table, first) == NONE) {
                return first;
            }
            long secondNumber = tokens.numberOf(table, second);
            if (secondNumber == NONE) {
                return second;
            }
            boolean isRow = tokens.kindOf(table, second + 1) != NOTHING;
            boolean mayCome = isRow ? due > 0 : due == 0 && secondNumber <= MOST_ROWS;
            return mayCome ? NONE : first;
        }

        /** Answers the token behind a part in which nothing is wrong. */
        private int readPart(Section table, int number, int first, Reading reading) {
            long firstNumber = tokens.numberOf(table, first);
            long secondNumber = tokens.numberOf(table, first + 1);
            int kind = tokens.kindOf(table, first + 2);
            if (kind == NOTHING) {
                turn = firstNumber;
                due = secondNumber;
                return first + 2;
            }
            reading.tell(turn, kind, firstNumber, secondNumber);
            turn++;
            due--;
            int begin = tokens.beginOf(first);
            if (tokens.beginOf(first + 3) - begin != TABLE_ROW_BYTES) {
                reading.findings.keep(TOLD_ODD_ROW, number, begin);
            }
            return first + 3;
        }
    }
}
