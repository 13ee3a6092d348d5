import java.util.Arrays;

/** A schema language over texts on a tape: values, shapes, versions, converters, forms, queries and a store. */
public final class ShapeLang {
    /** There is none. */
    public static final int NONE = -1;
    /** Kinds of changes. */
    public static final int ADD = 0, DROP = 1, RENAME = 2, SPLIT = 3, JOIN = 4, MOVE = 5, LIFT = 6, RETYPE = 7, WRAP = 8, UNWRAP = 9, RELAX = 10, REQUIRE = 11;

    /** Kinds of values, in their order, and of parts of shapes. */
    private static final int NUMBER = 0, TEXT = 1, LIST = 2, RECORD = 3, TAGGED = 4, MAP = 5, REF = 6, NOTHING = 7;

    private static final int TAPE_ROOM = 600, SLOTS = 8, VERSIONS = 12, DOCUMENTS = 12;
    private static final int MOST_NODES = 60, MOST_AROUND = 12, MOST_BRACKETS = 12, MOST_ITEMS = 8, MOST_LETTERS = 8;
    private static final int MOST_NUMBER = 9999, MOST_PARTS = 24, MOST_LED = 6, MOST_FIELDS = 6, MOST_DEFINITIONS = 4;
    private static final int MOST_STEPS = 8, MOST_SMALL = 3, MOST_GROWTH = 4, MOST_FACTOR = 100, MOST_SHRUNK = 20;
    /** A guard on recursion over values: no value that is built here stands deeper. */
    private static final int MOST_LEVELS = 80;

    /** The regions in which values outlast a call: those of slots come first, then these. */
    private static final int DOCUMENT_REGION = SLOTS, QUERY_REGION = DOCUMENT_REGION + DOCUMENTS;
    private static final int SPARE_REGION = QUERY_REGION + 1, BEST_REGION = SPARE_REGION + 1;
    private static final int DEFAULT_REGION = BEST_REGION + 1, DEFAULTS = MOST_FIELDS + 1;

    /** Steps of paths. */
    private static final int FIELD_STEP = 0, ITEM_STEP = 1, ENTRY_STEP = 2, TAG_STEP = 3;

    private final Buf tape = new Buf(TAPE_ROOM);
    private final Buf taken = new Buf(TAPE_ROOM);
    private final Buf out = new Buf(4096);
    private final Pool pool = new Pool();
    private final Schemas schemas = new Schemas(pool);
    private final Reader reader = new Reader(pool, schemas);
    private final Solver solver = new Solver(pool, schemas);
    private final Changes changes = new Changes(pool, schemas, reader, solver);
    private final Forms forms = new Forms(pool, schemas);
    private final Paths paths = new Paths(pool, schemas);
    private final Samples samples = new Samples(pool, schemas);
    private final boolean[] filled = new boolean[SLOTS];
    private final int[] documentVersion = new int[DOCUMENTS];
    private final int[] way = new int[VERSIONS + 1];
    private final int[] otherWay = new int[VERSIONS + 1];
    private int versionCount;
    private int documentCount;
    private int lastFault = NONE;

    public ShapeLang() {
    }

    // ---- the tape and the out

    public int feed(long bytes, int n) throws IllegalArgumentException, IllegalStateException {
        if (n < 1 || n > 8) {
            throw new IllegalArgumentException("n is 1 to 8");
        }
        if (tape.size() + n > TAPE_ROOM) {
            throw new IllegalStateException("the tape is full");
        }
        for (int i = 0; i < n; i++) {
            tape.add((int) (bytes >>> (8 * i)) & 255);
        }
        return tape.size();
    }

    public int fault() {
        return lastFault;
    }

    public int length() {
        return out.size();
    }

    public long word(int i) {
        long bits = 0;
        for (int k = 0; k < 8; k++) {
            long place = 8L * i + k;
            if (place >= 0 && place < out.size()) {
                bits |= (long) out.at((int) place) << (8 * k);
            }
        }
        return bits;
    }

    // ---- values

    public int put(int slot) throws IndexOutOfBoundsException, IllegalStateException {
        needSlot(slot);
        pool.free();
        int value = reader.readValueText(takeTape());
        lastFault = reader.faultOf();
        needText();
        return fill(slot, value);
    }

    public boolean clear(int slot) throws IndexOutOfBoundsException {
        needSlot(slot);
        boolean had = isFilled(slot);
        setFilled(slot, false);
        return had;
    }

    public int show(int slot) throws IndexOutOfBoundsException, IllegalStateException {
        needSlot(slot);
        needValue(slot);
        return tell(valueIn(slot));
    }

    public int compare(int slot, int other) throws IndexOutOfBoundsException, IllegalStateException {
        needSlot(slot);
        needSlot(other);
        needValue(slot);
        needValue(other);
        return pool.order(valueIn(slot), valueIn(other), 0);
    }

    // ---- versions

    public int begin() throws IllegalStateException {
        pool.free();
        reader.readSchema(takeTape(), versionCount);
        lastFault = reader.faultOf();
        needText();
        needRoomForVersion();
        return beginRoot();
    }

    public int change(int version, int kind, int definition, int n) throws IndexOutOfBoundsException, IllegalArgumentException, IllegalStateException {
        needVersion(version);
        needDefinition(version, definition);
        boolean counts = kind == SPLIT || kind == JOIN;
        if (kind < ADD || kind > REQUIRE || (counts ? n < 2 || n > MOST_FACTOR : n != 0)) {
            throw new IllegalArgumentException("kind or n is out of range");
        }
        pool.free();
        Version begun = changes.version(versionCount);
        begun.come(version, kind, definition, n, takeTape());
        reader.readChange(begun);
        lastFault = reader.faultOf();
        needText();
        needRoomForVersion();
        if (!changes.make(versionCount)) {
            throw new IllegalStateException("the change is refused");
        }
        versionCount++;
        return versionCount - 1;
    }

    public int versions() {
        return versionCount;
    }

    public int parent(int version) throws IndexOutOfBoundsException {
        needVersion(version);
        return changes.version(version).parent;
    }

    public int schema(int version) throws IndexOutOfBoundsException {
        needVersion(version);
        out.wipe();
        schemas.tellSchema(version, out);
        return out.size();
    }

    public int signature(int version) throws IndexOutOfBoundsException {
        needVersion(version);
        Buf text = changes.workText();
        text.wipe();
        schemas.tellSchema(version, text);
        long sum = 7;
        for (int i = 0; i < text.size(); i++) {
            sum = (sum * 31 + text.at(i)) % 1000003;
        }
        return (int) sum;
    }

    public boolean isPlain(int version) throws IndexOutOfBoundsException {
        needVersion(version);
        pool.free();
        return solver.solve(solver.askOverlaps(version)) == NONE;
    }

    // ---- shapes

    public boolean isOf(int version, int definition, int slot) throws IndexOutOfBoundsException, IllegalStateException {
        needVersion(version);
        needDefinition(version, definition);
        needSlot(slot);
        needValue(slot);
        return schemas.holds(valueIn(slot), schemas.shapeAt(version, definition), version);
    }

    public int witness(int version, int definition, int otherVersion, int other) throws IndexOutOfBoundsException {
        needBoth(version, definition, otherVersion, other);
        pool.free();
        solver.askApart(schemas.shapeAt(version, definition), version, schemas.shapeAt(otherVersion, other), otherVersion);
        return tellNodes(solver.solve(1));
    }

    public int common(int version, int definition, int otherVersion, int other) throws IndexOutOfBoundsException {
        needBoth(version, definition, otherVersion, other);
        pool.free();
        solver.askShared(schemas.shapeAt(version, definition), version, schemas.shapeAt(otherVersion, other), otherVersion);
        return tellNodes(solver.solve(1));
    }

    public int least(int version, int definition) throws IndexOutOfBoundsException {
        needVersion(version);
        needDefinition(version, definition);
        pool.free();
        solver.askLeast(schemas.shapeAt(version, definition), version);
        return tellNodes(solver.solve(1));
    }

    public int infer(int slots, int growth) throws IllegalArgumentException, IllegalStateException {
        if (slots < 0 || slots > 255 || growth < 1 || growth > MOST_GROWTH) {
            throw new IllegalArgumentException("slots or growth is out of range");
        }
        needRoomForVersion();
        pool.free();
        samples.wipe();
        for (int s = 0; s < SLOTS; s++) {
            if ((slots >> s & 1) != 0 && isFilled(s)) {
                samples.addSample(valueIn(s));
            }
        }
        Buf text = changes.workText();
        boolean told = samples.inferShape(growth, text);
        if (told) {
            reader.readSchema(text, versionCount);
        }
        if (!told || reader.faultOf() != NONE) {
            throw new IllegalStateException("nothing is inferred");
        }
        return beginRoot();
    }

    // ---- converting and forms

    public int convert(int from, int to, int slot, int target) throws IndexOutOfBoundsException, IllegalStateException {
        needVersion(from);
        needVersion(to);
        needSlot(slot);
        needSlot(target);
        needValue(slot);
        pool.free();
        return fillConverted(target, changes.carry(valueIn(slot), from, to));
    }

    public int losses(int from, int to) throws IndexOutOfBoundsException {
        needVersion(from);
        needVersion(to);
        int top = changes.meeting(from, to);
        if (top == NONE) {
            return NONE;
        }
        int count = 0;
        int up = changes.wayDown(top, from, way);
        for (int i = 0; i < up && i < way.length; i++) {
            count += changes.loses(way[i], false) ? 1 : 0;
        }
        int down = changes.wayDown(top, to, way);
        for (int i = 0; i < down && i < way.length; i++) {
            count += changes.loses(way[i], true) ? 1 : 0;
        }
        return count;
    }

    public int encode(int version, int slot) throws IndexOutOfBoundsException, IllegalStateException {
        needVersion(version);
        needSlot(slot);
        needValue(slot);
        needOfRoot(version, slot);
        out.wipe();
        return forms.formOf(valueIn(slot), version, out);
    }

    public int decode(int version, int bits, int slot) throws IndexOutOfBoundsException, IllegalArgumentException, IllegalStateException {
        needVersion(version);
        needSlot(slot);
        if (bits < 0 || bits > 8 * TAPE_ROOM) {
            throw new IllegalArgumentException("bits is out of range");
        }
        pool.free();
        int value = forms.valueOf(takeTape(), bits, version);
        if (value == NONE) {
            throw new IllegalStateException("the bits are the form of no value");
        }
        return fill(slot, value);
    }

    // ---- queries

    public int query(int version, int slot) throws IndexOutOfBoundsException, IllegalStateException {
        needVersion(version);
        needSlot(slot);
        readPathOf(version);
        needValue(slot);
        needOfRoot(version, slot);
        return paths.find(pool.keep(QUERY_REGION, valueIn(slot)));
    }

    public int result(int result) throws IndexOutOfBoundsException {
        if (result < 0 || result >= paths.found()) {
            throw new IndexOutOfBoundsException("there is no such result");
        }
        return tell(paths.foundAt(result));
    }

    public int shapeOf(int version) throws IndexOutOfBoundsException, IllegalStateException {
        needVersion(version);
        readPathOf(version);
        out.wipe();
        paths.tellShape(version, changes.workText(), out);
        return out.size();
    }

    public int rewrite(int from, int to) throws IndexOutOfBoundsException, IllegalStateException {
        needVersion(from);
        needVersion(to);
        readPathOf(from);
        int top = changes.meeting(from, to);
        boolean stands = top != NONE;
        int up = stands ? changes.wayDown(top, from, way) : 0;
        for (int i = up - 1; i >= 0 && i < way.length && stands; i--) {
            stands = paths.rewriteOver(changes.version(way[i]), way[i], false);
        }
        int down = stands ? changes.wayDown(top, to, way) : 0;
        for (int i = 0; i < down && i < way.length && stands; i++) {
            stands = paths.rewriteOver(changes.version(way[i]), way[i], true);
        }
        if (!stands) {
            throw new IllegalStateException("the path cannot be rewritten");
        }
        out.wipe();
        paths.tellPath(out);
        return out.size();
    }

    // ---- the store

    public int write(int version, int slot) throws IndexOutOfBoundsException, IllegalStateException {
        needVersion(version);
        needSlot(slot);
        needValue(slot);
        needOfRoot(version, slot);
        if (documentCount >= DOCUMENTS) {
            throw new IllegalStateException("there are 12 documents");
        }
        pool.free();
        pool.keep(DOCUMENT_REGION + documentCount, valueIn(slot));
        setDocumentVersion(documentCount, version);
        documentCount++;
        return documentCount - 1;
    }

    public int read(int document, int version, int slot) throws IndexOutOfBoundsException, IllegalStateException {
        needDocument(document);
        needVersion(version);
        needSlot(slot);
        pool.free();
        return fillConverted(slot, changes.carry(documentValue(document), versionAt(document), version));
    }

    public int move(int version, int most) throws IndexOutOfBoundsException, IllegalArgumentException {
        needVersion(version);
        if (most < 1 || most > DOCUMENTS) {
            throw new IllegalArgumentException("most is out of range");
        }
        int moved = 0;
        for (int d = 0; d < documentCount && moved < most; d++) {
            if (versionAt(d) != version) {
                pool.free();
                int value = changes.carry(documentValue(d), versionAt(d), version);
                if (value != NONE) {
                    pool.keep(DOCUMENT_REGION + d, value);
                    setDocumentVersion(d, version);
                    moved++;
                }
            }
        }
        return moved;
    }

    public int versionOf(int document) throws IndexOutOfBoundsException {
        needDocument(document);
        return versionAt(document);
    }

    // ---- merging

    public int conflicts(int version, int other) throws IndexOutOfBoundsException {
        needVersion(version);
        needVersion(other);
        int top = changes.meeting(version, other);
        if (top == NONE) {
            return NONE;
        }
        int mine = changes.wayDown(top, version, way);
        int theirs = changes.wayDown(top, other, otherWay);
        int count = 0;
        for (int i = 0; i < theirs && i < otherWay.length; i++) {
            count += changes.clashes(otherWay[i], way, mine) ? 1 : 0;
        }
        return count;
    }

    public int merge(int version, int other) throws IndexOutOfBoundsException, IllegalStateException {
        if (conflicts(version, other) != 0) {
            throw new IllegalStateException("there is a conflict, or no version from which both come");
        }
        pool.free();
        int top = changes.meeting(version, other);
        int mine = changes.wayDown(top, version, way);
        int theirs = changes.wayDown(top, other, otherWay);
        int last = version;
        int count = versionCount;
        boolean stands = true;
        for (int i = 0; i < theirs && i < otherWay.length && stands; i++) {
            if (!changes.isAmong(otherWay[i], way, mine)) {
                stands = count < VERSIONS;
                if (stands) {
                    reader.readChange(changes.retold(otherWay[i], last, count));
                    stands = changes.make(count);
                }
                last = count;
                count++;
            }
        }
        if (!stands) {
            throw new IllegalStateException("a change would be refused, or there would be more than 12 versions");
        }
        versionCount = count;
        return last;
    }

    // ---- small values

    public int small(int version, int definition, int nodes) throws IndexOutOfBoundsException, IllegalArgumentException {
        needVersion(version);
        needDefinition(version, definition);
        needSmall(nodes);
        pool.free();
        samples.aim(schemas.shapeAt(version, definition), version, NONE, NONE);
        return samples.countOf(nodes, NONE);
    }

    public int putSmall(int version, int definition, int nodes, int place, int slot) throws IndexOutOfBoundsException, IllegalArgumentException {
        needVersion(version);
        needDefinition(version, definition);
        needSlot(slot);
        if (place < 0) {
            throw new IndexOutOfBoundsException("there is no such place");
        }
        needSmall(nodes);
        pool.free();
        samples.aim(schemas.shapeAt(version, definition), version, NONE, NONE);
        if (samples.countOf(nodes, place) <= place) {
            throw new IndexOutOfBoundsException("there is no such place");
        }
        pool.free();
        fill(slot, BEST_REGION * MOST_NODES);
        Buf text = changes.workText();
        text.wipe();
        pool.tell(valueIn(slot), text, 0);
        return text.size();
    }

    public int refuted(int version, int definition, int otherVersion, int other, int nodes) throws IndexOutOfBoundsException, IllegalArgumentException {
        needBoth(version, definition, otherVersion, other);
        needSmall(nodes);
        samples.aim(schemas.shapeAt(version, definition), version, schemas.shapeAt(otherVersion, other), otherVersion);
        int count = 0;
        for (int n = 1; n <= nodes; n++) {
            pool.free();
            count += samples.countOf(n, NONE);
        }
        return count;
    }

    public int shrink(int version, int definition, int otherVersion, int other, int slot) throws IndexOutOfBoundsException, IllegalStateException {
        needBoth(version, definition, otherVersion, other);
        needSlot(slot);
        needValue(slot);
        pool.free();
        samples.aim(schemas.shapeAt(version, definition), version, schemas.shapeAt(otherVersion, other), otherVersion);
        if (!samples.isAimed(valueIn(slot))) {
            throw new IllegalStateException("the value is not of the first one, or is of the second one");
        }
        pool.keep(SPARE_REGION, valueIn(slot));
        int times = 0;
        for (int i = 0; i < MOST_SHRUNK && samples.findSmaller(); i++) {
            pool.keep(SPARE_REGION, BEST_REGION * MOST_NODES);
            times++;
        }
        fill(slot, SPARE_REGION * MOST_NODES);
        return times;
    }

    // ---- what the calls share

    private Buf takeTape() {
        taken.wipe();
        taken.addPart(tape, 0, tape.size());
        tape.wipe();
        return taken;
    }

    private void needText() {
        if (lastFault != NONE) {
            throw new IllegalStateException("the text has a fault");
        }
    }

    private void needSlot(int slot) {
        if (slot < 0 || slot >= SLOTS) {
            throw new IndexOutOfBoundsException("there is no such slot");
        }
    }

    private void needValue(int slot) {
        if (!isFilled(slot)) {
            throw new IllegalStateException("the slot is empty");
        }
    }

    private void needVersion(int version) {
        if (version < 0 || version >= versionCount) {
            throw new IndexOutOfBoundsException("there is no such version");
        }
    }

    private void needDefinition(int version, int definition) {
        if (definition < 0 || definition >= schemas.definitions(version)) {
            throw new IndexOutOfBoundsException("there is no such definition");
        }
    }

    private void needBoth(int version, int definition, int otherVersion, int other) {
        needVersion(version);
        needDefinition(version, definition);
        needVersion(otherVersion);
        needDefinition(otherVersion, other);
    }

    private void needDocument(int document) {
        if (document < 0 || document >= documentCount) {
            throw new IndexOutOfBoundsException("there is no such document");
        }
    }

    private void needSmall(int nodes) {
        if (nodes < 1 || nodes > MOST_SMALL) {
            throw new IllegalArgumentException("nodes is 1 to 3");
        }
    }

    private void needRoomForVersion() {
        if (versionCount >= VERSIONS) {
            throw new IllegalStateException("there are 12 versions");
        }
    }

    private void needOfRoot(int version, int slot) {
        if (!schemas.holds(valueIn(slot), schemas.shapeAt(version, 0), version)) {
            throw new IllegalStateException("the value is not of the root");
        }
    }

    private void readPathOf(int version) {
        pool.free();
        reader.readPath(takeTape());
        lastFault = reader.faultOf();
        needText();
        if (!paths.take(reader, version)) {
            throw new IllegalStateException("the path cannot be gone");
        }
    }

    private int beginRoot() {
        changes.version(versionCount).come(NONE, NONE, NONE, 0, taken);
        versionCount++;
        return versionCount - 1;
    }

    private boolean isFilled(int slot) {
        return slot >= 0 && slot < filled.length && filled[slot];
    }

    private void setFilled(int slot, boolean now) {
        if (slot >= 0 && slot < filled.length) {
            filled[slot] = now;
        }
    }

    private int versionAt(int document) {
        return document >= 0 && document < documentVersion.length ? documentVersion[document] : NONE;
    }

    private void setDocumentVersion(int document, int version) {
        if (document >= 0 && document < documentVersion.length) {
            documentVersion[document] = version;
        }
    }

    /** The value of a slot stands first in the region of its number. */
    private int valueIn(int slot) {
        return slot * MOST_NODES;
    }

    private int fill(int slot, int value) {
        pool.keep(slot, value);
        setFilled(slot, true);
        return pool.nodesOf(valueIn(slot));
    }

    private int fillConverted(int slot, int value) {
        if (value == NONE) {
            throw new IllegalStateException("it cannot be converted");
        }
        return fill(slot, value);
    }

    private int documentValue(int document) {
        return (DOCUMENT_REGION + document) * MOST_NODES;
    }

    private int tell(int value) {
        out.wipe();
        pool.tell(value, out, 0);
        return out.size();
    }

    private int tellNodes(int value) {
        out.wipe();
        if (value == NONE) {
            return NONE;
        }
        pool.tell(value, out, 0);
        return pool.nodesOf(value);
    }

    // ---- letters: a row of letters is a number to the base 27, a as 1, so that its order is that of the numbers

    private static final long[] POWERS = {1L, 27L, 729L, 19683L, 531441L, 14348907L, 387420489L, 10460353203L, 282429536481L};

    private static int lettersIn(long code) {
        int count = 0;
        for (int i = 0; i < POWERS.length && code >= POWERS[i]; i++) {
            count++;
        }
        return count;
    }

    /** The letter at a place from the front, 1 for a; 0 if there is none. */
    private static int letterAt(long code, int place, int letters) {
        int power = letters - 1 - place;
        return power >= 0 && power < POWERS.length ? (int) (code / POWERS[power] % 27) : 0;
    }

    /** How many bits the numbers from 0 to the greatest one need. */
    private static int bitsFor(int greatest) {
        int bits = 0;
        for (int rest = greatest; rest > 0 && bits < 31; rest >>= 1) {
            bits++;
        }
        return bits;
    }

    /** A row of bytes. */
    private static final class Buf {
        /** Ahead of the units of a number: the place of its sign. */
        private static final int SIGN_UNIT = 1000000;

        private final byte[] bytes;
        private int count;

        Buf(int room) {
            bytes = new byte[Math.max(room, 0)];
        }

        void wipe() {
            count = 0;
        }

        int size() {
            return count;
        }

        /** NONE where there is no byte. */
        int at(int i) {
            return i >= 0 && i < count && i < bytes.length ? bytes[i] & 255 : NONE;
        }

        int last() {
            return count > 0 && count <= bytes.length ? bytes[count - 1] & 255 : NONE;
        }

        void add(int b) {
            if (count >= 0 && count < bytes.length) {
                bytes[count] = (byte) b;
                count++;
            }
        }

        /** Leaves out all from a byte on. */
        void cut(int to) {
            count = to >= 0 && to < count ? to : count;
        }

        /** Sets a bit of the last byte, the highest one being bit 0. */
        void addBit(int place, int bit) {
            if (place % 8 == 0) {
                add(0);
            }
            if (count > 0 && count <= bytes.length && bit != 0) {
                bytes[count - 1] = (byte) (bytes[count - 1] | 128 >> (place & 7));
            }
        }

        void addPart(Buf other, int from, int to) {
            for (int i = from; i < to; i++) {
                add(other.at(i));
            }
        }

        void addNumber(int n) {
            int size = Math.abs(n);
            for (int unit = SIGN_UNIT; unit > 0; unit /= 10) {
                boolean sign = unit == SIGN_UNIT;
                boolean told = sign ? n < 0 : unit == 1 || size >= unit;
                if (told && count >= 0 && count < bytes.length) {
                    bytes[count] = (byte) (sign ? '-' : '0' + size / unit % 10);
                    count++;
                }
            }
        }

        void addLetters(long code, boolean capital) {
            int first = capital ? 'A' : 'a';
            for (int i = POWERS.length - 1; i >= 0; i--) {
                if (code >= POWERS[i] && count >= 0 && count < bytes.length) {
                    bytes[count] = (byte) (first - 1 + code / POWERS[i] % 27);
                    count++;
                    first = 'a';
                }
            }
        }

        void addWord(String word) {
            for (int i = 0; i < word.length() && count >= 0 && count < bytes.length; i++) {
                bytes[count] = (byte) word.charAt(i);
                count++;
            }
        }

        /** A comma, but behind the bracket that opens the row. */
        void addComma(int bracket) {
            if (last() != bracket) {
                add(',');
            }
        }

        boolean sameAs(Buf other) {
            boolean same = count == other.count;
            for (int i = 0; i < count && same; i++) {
                same = at(i) == other.at(i);
            }
            return same;
        }

        /** Whether two stretches of bytes are the same. */
        boolean repeats(int from, int to, int again, int end) {
            boolean same = to - from == end - again;
            for (int i = 0; i < to - from && same; i++) {
                same = at(from + i) == at(again + i);
            }
            return same;
        }
    }

    /**
     * Values. They are never changed once they are made, so that one can be in several others. Those of the
     * regions outlast calls, those behind the regions end with the call.
     */
    private static final class Pool {
        private static final int KEPT = (DEFAULT_REGION + (VERSIONS + 1) * DEFAULTS) * MOST_NODES;
        /** Each state of the solver can have a value of its own, with no more than eight in it. */
        private static final int ROOM = KEPT + Solver.STATES + 10000, EDGES = KEPT + Solver.STATES * MOST_ITEMS + 24000, STACK = 1024;

        private final int[] kind = new int[ROOM];
        private final int[] nodes = new int[ROOM];
        private final int[] around = new int[ROOM];
        private final long[] code = new long[ROOM];
        private final int[] start = new int[ROOM];
        private final int[] size = new int[ROOM];
        private final long[] label = new long[EDGES];
        private final int[] child = new int[EDGES];
        private final long[] stackLabel = new long[STACK];
        private final int[] stackValue = new int[STACK];
        private final int[] queue = new int[MOST_NODES];
        private int top = KEPT;
        private int edgeTop = KEPT;
        private int stackTop;
        /** Where the values begin that are given up by letting go. */
        private int heldTop = KEPT;
        private int heldEdgeTop = KEPT;

        /** Gives up all values but those of the regions. */
        void free() {
            top = KEPT;
            edgeTop = KEPT;
            stackTop = 0;
            hold();
        }

        /** The values that there are now are not given up by letting go. */
        void hold() {
            heldTop = top;
            heldEdgeTop = edgeTop;
        }

        /** Gives up all values since those that are held. */
        void letGo() {
            top = heldTop;
            edgeTop = heldEdgeTop;
            stackTop = 0;
        }

        /** Gives up a value and all that were made since. */
        void drop(int v) {
            if (v >= 0 && v >= heldTop && v < top && v < ROOM) {
                top = v;
                edgeTop = start[v];
            }
        }

        /** Brings a value that was made since those that are held down to them; all others made since are given up. */
        int bringDown(int v) {
            int to = heldTop;
            if (v < to || v >= top || to < 0 || v >= ROOM) {
                return v;
            }
            kind[to] = kind[v];
            nodes[to] = nodes[v];
            around[to] = around[v];
            code[to] = code[v];
            size[to] = size[v];
            int from = start[v];
            start[to] = heldEdgeTop;
            for (int i = 0; i < size[to] && heldEdgeTop + i < EDGES && from + i < EDGES && from >= heldEdgeTop && heldEdgeTop >= 0; i++) {
                label[heldEdgeTop + i] = label[from + i];
                child[heldEdgeTop + i] = child[from + i];
            }
            top = to + 1;
            edgeTop = heldEdgeTop + size[to];
            return to;
        }

        int kindOf(int v) {
            return v >= 0 && v < ROOM ? kind[v] : NONE;
        }

        int nodesOf(int v) {
            return v >= 0 && v < ROOM ? nodes[v] : 0;
        }

        /** How many values are around the one that is deepest in it. */
        int aroundIn(int v) {
            return v >= 0 && v < ROOM ? around[v] : 0;
        }

        /** The number, the letters of the text, or those of the tag. */
        long codeOf(int v) {
            return v >= 0 && v < ROOM ? code[v] : 0;
        }

        int sizeOf(int v) {
            return v >= 0 && v < ROOM ? size[v] : 0;
        }

        int childOf(int v, int i) {
            int e = v >= 0 && v < ROOM && i >= 0 && i < size[v] ? start[v] + i : NONE;
            return e >= 0 && e < EDGES ? child[e] : NONE;
        }

        /** The name of a field, or the key of an entry. */
        long labelOf(int v, int i) {
            int e = v >= 0 && v < ROOM && i >= 0 && i < size[v] ? start[v] + i : NONE;
            return e >= 0 && e < EDGES ? label[e] : 0;
        }

        /** The value of a field of a record; NONE if it is missing. */
        int field(int v, long name) {
            int first = v >= 0 && v < ROOM ? start[v] : 0;
            int count = v >= 0 && v < ROOM ? size[v] : 0;
            for (int e = first; e < first + count && e >= 0 && e < EDGES; e++) {
                if (label[e] == name) {
                    return child[e];
                }
            }
            return NONE;
        }

        int number(int n) {
            return close(NUMBER, n, stackTop);
        }

        int text(long letters) {
            return close(TEXT, letters, stackTop);
        }

        int stackMark() {
            return stackTop;
        }

        void push(long name, int v) {
            if (stackTop >= 0 && stackTop < STACK) {
                stackLabel[stackTop] = name;
                stackValue[stackTop] = v;
                stackTop++;
            }
        }

        /** A value of what was pushed since a mark; NONE if there is no room or something pushed is none. */
        int close(int newKind, long newCode, int mark) {
            int count = stackTop - mark;
            if (mark < 0 || count < 0 || top < 0 || top >= ROOM || edgeTop < 0 || edgeTop + count > EDGES) {
                return NONE;
            }
            stackTop = mark;
            int sum = 1;
            int deepest = 0;
            for (int i = 0; i < count && mark + i < STACK; i++) {
                int v = stackValue[mark + i];
                if (v < 0 || v >= ROOM) {
                    return NONE;
                }
                sum += nodes[v];
                deepest = Math.max(deepest, around[v] + 1);
                label[edgeTop + i] = stackLabel[mark + i];
                child[edgeTop + i] = v;
            }
            kind[top] = newKind;
            code[top] = newCode;
            nodes[top] = sum;
            around[top] = deepest;
            start[top] = edgeTop;
            size[top] = count;
            edgeTop += count;
            top++;
            return top - 1;
        }

        /** The value with another one at the place of an item, or without it, if the other one is NONE. */
        int exchange(int v, int place, int other) {
            int mark = stackTop;
            for (int i = 0; i < sizeOf(v); i++) {
                if (i != place) {
                    push(labelOf(v, i), childOf(v, i));
                } else if (other != NONE) {
                    push(labelOf(v, i), other);
                }
            }
            return close(kindOf(v), codeOf(v), mark);
        }

        /** A record with one field more. */
        int with(int record, long name, int v) {
            int mark = stackTop;
            boolean open = true;
            for (int i = 0; i < sizeOf(record); i++) {
                if (open && labelOf(record, i) > name) {
                    push(name, v);
                    open = false;
                }
                push(labelOf(record, i), childOf(record, i));
            }
            if (open) {
                push(name, v);
            }
            return close(RECORD, 0, mark);
        }

        /** A record without a field. */
        int without(int record, long name) {
            int mark = stackTop;
            for (int i = 0; i < sizeOf(record); i++) {
                if (labelOf(record, i) != name) {
                    push(labelOf(record, i), childOf(record, i));
                }
            }
            return close(RECORD, 0, mark);
        }

        /** Copies a value into a region. It is copied apart first, since it may have parts in that very region. */
        int keep(int region, int v) {
            int base = region * MOST_NODES;
            int count = nodesOf(v);
            boolean fits = count > 0 && count <= MOST_NODES && top + count <= ROOM && edgeTop + count <= EDGES;
            if (!fits || base < 0 || base + MOST_NODES > KEPT) {
                return NONE;
            }
            copy(v, top, edgeTop);
            return copy(top, base, base);
        }

        private int copy(int v, int base, int edgeBase) {
            int used = 1;
            queue[0] = v;
            for (int i = 0; i < used && i < queue.length; i++) {
                int from = queue[i];
                int to = base + i;
                if (from < 0 || from >= ROOM || to < 0 || to >= ROOM) {
                    return NONE;
                }
                kind[to] = kind[from];
                nodes[to] = nodes[from];
                around[to] = around[from];
                code[to] = code[from];
                int count = size[from];
                size[to] = count;
                int oldStart = start[from];
                int newStart = edgeBase + used - 1;
                start[to] = newStart;
                for (int k = 0; k < count && used < queue.length; k++) {
                    if (oldStart + k < 0 || oldStart + k >= EDGES || newStart + k < 0 || newStart + k >= EDGES) {
                        return NONE;
                    }
                    label[newStart + k] = label[oldStart + k];
                    queue[used] = child[oldStart + k];
                    child[newStart + k] = base + used;
                    used++;
                }
            }
            return base;
        }

        /** -1, 0 or 1 by the order of values; the depth is that of the values in those that are compared. */
        private int order(int v, int w, int depth) {
            if (v == w || depth > MOST_LEVELS || v < 0 || v >= ROOM || w < 0 || w >= ROOM) {
                return 0;
            }
            int first = Integer.compare(nodes[v], nodes[w]);
            if (first == 0) {
                first = Integer.compare(kind[v], kind[w]);
            }
            if (first == 0 && kind[v] == NUMBER) {
                first = Long.compare(Math.abs(code[v]), Math.abs(code[w]));
                return first != 0 ? first : Long.compare(code[w], code[v]);
            }
            if (first == 0) {
                first = Long.compare(code[v], code[w]);
            }
            if (first == 0) {
                first = Integer.compare(size[v], size[w]);
            }
            for (int i = 0; i < size[v] && first == 0; i++) {
                int e = start[v] + i;
                int f = start[w] + i;
                if (e >= 0 && e < EDGES && f >= 0 && f < EDGES) {
                    first = Long.compare(label[e], label[f]);
                    first = first != 0 ? first : order(child[e], child[f], depth + 1);
                }
            }
            return first;
        }

        /** The text of a value comes behind the bytes. */
        private void tell(int v, Buf to, int depth) {
            int k = kindOf(v);
            if (depth > MOST_LEVELS) {
                return;
            }
            if (k == NUMBER) {
                to.addNumber((int) codeOf(v));
            } else if (k == TEXT) {
                tellText(codeOf(v), to);
            } else {
                if (k == TAGGED) {
                    to.addLetters(codeOf(v), true);
                }
                to.add(k == LIST ? '[' : k == RECORD ? '{' : k == MAP ? '<' : '(');
                for (int i = 0; i < sizeOf(v); i++) {
                    if (i > 0) {
                        to.add(',');
                    }
                    tellLabel(k, labelOf(v, i), to);
                    tell(childOf(v, i), to, depth + 1);
                }
                to.add(k == LIST ? ']' : k == RECORD ? '}' : k == MAP ? '>' : ')');
            }
        }

        private static void tellText(long letters, Buf to) {
            to.add('\'');
            to.addLetters(letters, false);
            to.add('\'');
        }

        private static void tellLabel(int k, long name, Buf to) {
            if (k == RECORD) {
                to.addLetters(name, false);
                to.add(':');
            } else if (k == MAP) {
                tellText(name, to);
                to.add(':');
            }
        }
    }

    /**
     * Shapes. Each version has a shelf of parts; a shape is a row of parts that stand together, told as the first
     * part times 8 and their number, so that a part alone is a shape, too. A REF is followed by the definitions of
     * the version by which a shape is looked at, which need not be that on whose shelf it stands.
     */
    private static final class Schemas {
        private static final int SHELVES = VERSIONS + 1, ROOM = SHELVES * MOST_PARTS, NAMES = SHELVES * MOST_DEFINITIONS;
        private static final int ANY = 26, STAR = 1, DOUBLE = 1 << MOST_PARTS;

        private final Pool pool;
        private final int[] kind = new int[ROOM];
        /** The first INT, the first item, the first field, the tag, or the definition. */
        private final int[] low = new int[ROOM];
        /** The second INT, or how many items or fields there are. */
        private final int[] high = new int[ROOM];
        private final int[] inner = new int[ROOM];
        private final int[] fieldName = new int[ROOM];
        private final int[] fieldShape = new int[ROOM];
        private final boolean[] fieldMay = new boolean[ROOM];
        private final int[] item = new int[ROOM * MOST_ITEMS];
        private final int[] name = new int[NAMES];
        private final int[] shape = new int[NAMES];
        private final int[] lead = new int[NAMES * MOST_LED];
        private final int[] leadCount = new int[NAMES];
        private final int[] count = new int[SHELVES];
        private final int[] partEnd = new int[SHELVES];
        /** For each shape those in the parts to which it leads, a bit each, and DOUBLE if it leads to two of a kind. */
        private final int[] next = new int[MOST_PARTS];
        private final int[] led = new int[MOST_LED * MOST_LED];
        private int shelf;
        private int fieldTop;
        private int itemTop;

        Schemas(Pool values) {
            pool = values;
        }

        // -- building

        void open(int version) {
            shelf = version >= 0 && version < SHELVES ? version : SHELVES - 1;
            partEnd[shelf] = shelf * MOST_PARTS;
            fieldTop = shelf * MOST_PARTS;
            itemTop = shelf * MOST_PARTS * MOST_ITEMS;
            count[shelf] = 0;
        }

        int partMark() {
            return partEnd[shelf];
        }

        int fieldMark() {
            return fieldTop;
        }

        int itemMark() {
            return itemTop;
        }

        /** Tells whether there was room. */
        boolean addPart(int newKind, int newLow, int newHigh, int newInner) {
            int p = partEnd[shelf];
            if (p < 0 || p >= ROOM || p >= (shelf + 1) * MOST_PARTS) {
                return false;
            }
            kind[p] = newKind;
            low[p] = newLow;
            high[p] = newHigh;
            inner[p] = newInner;
            partEnd[shelf]++;
            return true;
        }

        boolean addField(int newName, int newShape, boolean may) {
            if (fieldTop < 0 || fieldTop >= ROOM || fieldTop >= (shelf + 1) * MOST_PARTS) {
                return false;
            }
            fieldName[fieldTop] = newName;
            fieldShape[fieldTop] = newShape;
            fieldMay[fieldTop] = may;
            fieldTop++;
            return true;
        }

        boolean addItem(int sign, int times) {
            if (itemTop < 0 || itemTop >= item.length || itemTop >= (shelf + 1) * MOST_PARTS * MOST_ITEMS) {
                return false;
            }
            item[itemTop] = sign * 3 + times;
            itemTop++;
            return true;
        }

        boolean addDefinition(int newName, int newShape) {
            int defined = count[shelf];
            if (defined < 0 || defined >= MOST_DEFINITIONS) {
                return false;
            }
            name[shelf * MOST_DEFINITIONS + defined] = newName;
            shape[shelf * MOST_DEFINITIONS + defined] = newShape;
            count[shelf]++;
            return true;
        }

        /** Whether the definitions have unlike names, and each REF is of one of them; they are looked up here. */
        boolean isNamed() {
            for (int d = 0; d < count[shelf]; d++) {
                if (definitionNamed(name[shelf * MOST_DEFINITIONS + d]) != d) {
                    return false;
                }
            }
            for (int p = shelf * MOST_PARTS; p < partEnd[shelf] && p < ROOM; p++) {
                if (kind[p] == REF) {
                    low[p] = definitionNamed(low[p]);
                    if (low[p] == NONE) {
                        return false;
                    }
                }
            }
            return true;
        }

        /** The first definition with a name. */
        private int definitionNamed(int wanted) {
            for (int d = 0; d < count[shelf]; d++) {
                if (name[shelf * MOST_DEFINITIONS + d] == wanted) {
                    return d;
                }
            }
            return NONE;
        }

        /** Finds to which parts each definition leads; false if one leads to itself by REF alone, or to too many. */
        boolean isLed() {
            int defined = count[shelf];
            for (int d = 0; d < defined; d++) {
                leadCount[shelf * MOST_DEFINITIONS + d] = NONE;
            }
            for (int round = 0; round < defined; round++) {
                for (int d = 0; d < defined; d++) {
                    findLead(shelf * MOST_DEFINITIONS + d);
                }
            }
            for (int d = 0; d < defined; d++) {
                if (leadCount[shelf * MOST_DEFINITIONS + d] == NONE) {
                    return false;
                }
            }
            return true;
        }

        private void findLead(int d) {
            int found = 0;
            for (int p = firstOf(shape[d]); p < endOf(shape[d]); p++) {
                int to = kindOf(p) == REF ? shelf * MOST_DEFINITIONS + lowOf(p) : NONE;
                int more = to == NONE ? 1 : leadCount[to];
                if (more == NONE || found + more > MOST_LED) {
                    return;
                }
                for (int i = 0; i < more; i++) {
                    lead[d * MOST_LED + found + i] = to == NONE ? p : lead[to * MOST_LED + i];
                }
                found += more;
            }
            leadCount[d] = found;
        }

        /** Whether no shape leads to too many parts, and the shapes that lead to two of a kind are few and not in themselves. */
        boolean isSpread() {
            Arrays.fill(next, 0);
            for (int d = 0; d < count[shelf]; d++) {
                if (!isPlaceSound(shape[shelf * MOST_DEFINITIONS + d])) {
                    return false;
                }
            }
            for (int p = shelf * MOST_PARTS; p < partEnd[shelf] && p < ROOM; p++) {
                boolean holdsShape = kind[p] == LIST || kind[p] == TAGGED || kind[p] == MAP;
                if (holdsShape && !isPlaceSound(inner[p])) {
                    return false;
                }
            }
            for (int f = shelf * MOST_PARTS; f < fieldTop && f < ROOM; f++) {
                if (!isPlaceSound(fieldShape[f])) {
                    return false;
                }
            }
            int doubles = 0;
            for (int place = 0; place < MOST_PARTS; place++) {
                doubles += (next[place] & DOUBLE) != 0 ? 1 : 0;
            }
            return doubles <= 2 && !isDoubleInItself();
        }

        private int bitOf(int shapeCode) {
            int place = firstOf(shapeCode) - shelf * MOST_PARTS;
            return place >= 0 && place < MOST_PARTS ? 1 << place : 0;
        }

        private boolean isPlaceSound(int shapeCode) {
            int found = leads(shapeCode, shelf, led, 0);
            int place = firstOf(shapeCode) - shelf * MOST_PARTS;
            int crowd = found > MOST_LED || place < 0 || place >= MOST_PARTS ? MOST_LED : crowdIn(found);
            if (crowd > 2) {
                return false;
            }
            if (crowd == 2) {
                next[place] |= DOUBLE;
            }
            for (int i = 0; i < found && i < led.length; i++) {
                int p = led[i];
                int k = kindOf(p);
                if (k == LIST || k == TAGGED || k == MAP) {
                    next[place] |= bitOf(innerOf(p));
                }
                for (int f = firstField(p); f < endField(p); f++) {
                    next[place] |= bitOf(shapeOfField(f));
                }
            }
            return true;
        }

        /** How many of the parts that were led to are of one kind at most, as far as that is bounded. */
        private int crowdIn(int found) {
            int most = 0;
            for (int i = 0; i < found && i < led.length; i++) {
                int k = kindOf(led[i]);
                int same = 0;
                for (int j = 0; j < found && j < led.length; j++) {
                    boolean alike = kindOf(led[j]) == k && (k != TAGGED || lowOf(led[j]) == lowOf(led[i]));
                    same += alike ? 1 : 0;
                }
                boolean bounded = k == LIST || k == RECORD || k == MAP || k == TAGGED;
                most = bounded ? Math.max(most, same) : most;
            }
            return most;
        }

        private boolean isDoubleInItself() {
            for (int place = 0; place < MOST_PARTS; place++) {
                int reached = (next[place] & DOUBLE) != 0 ? next[place] : 0;
                for (int round = 0; round < MOST_PARTS; round++) {
                    for (int b = 0; b < MOST_PARTS; b++) {
                        reached |= (reached >> b & 1) != 0 ? next[b] : 0;
                    }
                }
                if ((reached >> place & 1) != 0) {
                    return true;
                }
            }
            return false;
        }

        // -- looking at shapes

        static int firstOf(int shapeCode) {
            return shapeCode >> 3;
        }

        static int endOf(int shapeCode) {
            return (shapeCode >> 3) + (shapeCode & 7);
        }

        static int alone(int part) {
            return part * 8 + 1;
        }

        /** A shape that is a REF alone is that to which it leads. */
        int behindRef(int shapeCode, int version) {
            int found = shapeCode;
            for (int i = 0; i < MOST_DEFINITIONS; i++) {
                int p = found >> 3;
                boolean alone = (found & 7) == 1 && p >= 0 && p < ROOM && kind[p] == REF;
                int d = alone ? version * MOST_DEFINITIONS + low[p] : NONE;
                found = d >= 0 && d < NAMES ? shape[d] : found;
            }
            return found;
        }

        /** The place behind the last part of a version; its first one is on the place of its shelf. */
        int endOfShelf(int version) {
            return version >= 0 && version < SHELVES ? partEnd[version] : 0;
        }

        int definitions(int version) {
            return version >= 0 && version < SHELVES ? count[version] : 0;
        }

        /** The shape of a definition. */
        int shapeAt(int version, int d) {
            int at = version * MOST_DEFINITIONS + d;
            return at >= 0 && at < NAMES ? shape[at] : 0;
        }

        private int nameOf(int version, int d) {
            int at = version * MOST_DEFINITIONS + d;
            return at >= 0 && at < NAMES ? name[at] : 0;
        }

        int kindOf(int p) {
            return p >= 0 && p < ROOM ? kind[p] : NONE;
        }

        int lowOf(int p) {
            return p >= 0 && p < ROOM ? low[p] : 0;
        }

        int highOf(int p) {
            return p >= 0 && p < ROOM ? high[p] : 0;
        }

        int innerOf(int p) {
            return p >= 0 && p < ROOM ? inner[p] : 0;
        }

        int firstField(int p) {
            return p >= 0 && p < ROOM && kind[p] == RECORD ? low[p] : 0;
        }

        int endField(int p) {
            return p >= 0 && p < ROOM && kind[p] == RECORD ? low[p] + high[p] : 0;
        }

        int nameOfField(int f) {
            return f >= 0 && f < ROOM ? fieldName[f] : 0;
        }

        int shapeOfField(int f) {
            return f >= 0 && f < ROOM ? fieldShape[f] : 0;
        }

        boolean mayMiss(int f) {
            return f >= 0 && f < ROOM && fieldMay[f];
        }

        /** The field of a part with a name; NONE if it has none. */
        int fieldNamed(int p, long wanted) {
            int first = p >= 0 && p < ROOM && kind[p] == RECORD ? low[p] : 0;
            int end = p >= 0 && p < ROOM && kind[p] == RECORD ? low[p] + high[p] : 0;
            for (int f = first; f < end && f >= 0 && f < ROOM; f++) {
                if (fieldName[f] == wanted) {
                    return f;
                }
            }
            return NONE;
        }

        /** The shape of the field of a part with a name; an empty one if there is none. */
        int shapeNamed(int p, long wanted) {
            return shapeOfField(fieldNamed(p, wanted));
        }

        /** The one part of a shape, if it has just one of the kind; NONE otherwise. */
        int onlyPart(int shapeCode, int wanted) {
            int p = firstOf(shapeCode);
            return endOf(shapeCode) == p + 1 && kindOf(p) == wanted ? p : NONE;
        }

        /** The parts to which a shape leads come into a row from a place on; returns the place behind them. */
        int leads(int shapeCode, int version, int[] into, int at) {
            int to = at;
            for (int p = shapeCode >> 3; p < (shapeCode >> 3) + (shapeCode & 7) && p >= 0 && p < ROOM; p++) {
                int d = kind[p] == REF ? version * MOST_DEFINITIONS + low[p] : NONE;
                int more = d == NONE ? 1 : d >= 0 && d < NAMES ? leadCount[d] : 0;
                for (int i = 0; i < more && i < MOST_LED && to >= 0 && to < into.length; i++) {
                    into[to] = d == NONE ? p : lead[d * MOST_LED + i];
                    to++;
                }
            }
            return to;
        }

        // -- texts that fit items: a set of places between items is a mask

        /** The places ahead of the first letter. */
        int startPlaces(int p) {
            int places = 1;
            int first = p >= 0 && p < ROOM ? low[p] : 0;
            int count = p >= 0 && p < ROOM ? high[p] : 0;
            for (int i = 0; i < count && i < MOST_ITEMS && first + i >= 0 && first + i < item.length; i++) {
                boolean loose = item[first + i] % 3 != 0;
                places |= loose && (places >> i & 1) != 0 ? 2 << i : 0;
            }
            return places;
        }

        /** The places behind a letter, 0 for a, from those ahead of it; what may be passed over is passed over. */
        int stepPlaces(int p, int mask, int letter) {
            int first = p >= 0 && p < ROOM ? low[p] : 0;
            int count = p >= 0 && p < ROOM ? high[p] : 0;
            int places = count == 0 ? mask : 0;
            for (int i = 0; i < count && i < MOST_ITEMS && first + i >= 0 && first + i < item.length; i++) {
                int sign = item[first + i] / 3;
                int times = item[first + i] % 3;
                if ((mask >> i & 1) != 0 && (sign == ANY || sign == letter)) {
                    places |= times == STAR ? 1 << i : 2 << i;
                }
                places |= times != 0 && (places >> i & 1) != 0 ? 2 << i : 0;
            }
            return places;
        }

        boolean endsIn(int p, int mask) {
            return p >= 0 && p < ROOM && (mask >> high[p] & 1) != 0;
        }

        /** The sign of the item behind a place, 0 for a, ANY for any letter; NONE if there is none. No items are any letters. */
        int signAt(int p, int place) {
            int first = p >= 0 && p < ROOM ? low[p] : 0;
            int count = p >= 0 && p < ROOM ? high[p] : 0;
            boolean is = place >= 0 && place < count && first + place >= 0 && first + place < item.length;
            return is ? item[first + place] / 3 : count == 0 && place == 0 ? ANY : NONE;
        }

        private boolean fits(long letters, int p) {
            int many = lettersIn(letters);
            int mask = startPlaces(p);
            for (int i = 0; i < many; i++) {
                mask = stepPlaces(p, mask, letterAt(letters, i, many) - 1);
            }
            return endsIn(p, mask);
        }

        // -- values of shapes

        boolean holds(int v, int shapeCode, int version) {
            return partFor(v, shapeCode, version, 0) != NONE;
        }

        /** Whether a number is of a shape. */
        boolean hasNumber(int shapeCode, int version, long number) {
            boolean has = false;
            for (int p = shapeCode >> 3; p < (shapeCode >> 3) + (shapeCode & 7) && p >= 0 && p < ROOM; p++) {
                int d = kind[p] == REF ? version * MOST_DEFINITIONS + low[p] : NONE;
                int more = d == NONE ? 1 : d >= 0 && d < NAMES ? leadCount[d] : 0;
                for (int i = 0; i < more && i < MOST_LED; i++) {
                    int q = d == NONE ? p : lead[d * MOST_LED + i];
                    boolean in = q >= 0 && q < ROOM && kind[q] == NUMBER && number >= low[q] && number <= high[q];
                    has = has || in;
                }
            }
            return has;
        }

        /** The first part to which a shape leads of which the value is; NONE if it is of none. */
        private int partFor(int v, int shapeCode, int version, int depth) {
            for (int p = firstOf(shapeCode); p < endOf(shapeCode) && depth <= MOST_LEVELS; p++) {
                int d = kindOf(p) == REF ? version * MOST_DEFINITIONS + lowOf(p) : NONE;
                int more = d == NONE ? 1 : d >= 0 && d < NAMES ? leadCount[d] : 0;
                for (int i = 0; i < more && i < MOST_LED; i++) {
                    int q = d == NONE ? p : lead[d * MOST_LED + i];
                    if (isOfPart(v, q, version, depth)) {
                        return q;
                    }
                }
            }
            return NONE;
        }

        private boolean isOfPart(int v, int p, int version, int depth) {
            int k = kindOf(p);
            if (k == NONE || pool.kindOf(v) != k) {
                return false;
            }
            switch (k) {
                case NUMBER:
                    return pool.codeOf(v) >= lowOf(p) && pool.codeOf(v) <= highOf(p);
                case TEXT:
                    return fits(pool.codeOf(v), p);
                case RECORD:
                    return isOfRecord(v, p, version, depth);
                case TAGGED:
                    return pool.codeOf(v) == lowOf(p) && partFor(pool.childOf(v, 0), innerOf(p), version, depth + 1) != NONE;
                default:
                    return isOfRow(v, p, version, depth);
            }
        }

        private boolean isOfRow(int v, int p, int version, int depth) {
            int size = pool.sizeOf(v);
            boolean is = size >= lowOf(p) && size <= highOf(p);
            for (int i = 0; i < size && is; i++) {
                is = partFor(pool.childOf(v, i), innerOf(p), version, depth + 1) != NONE;
            }
            return is;
        }

        private boolean isOfRecord(int v, int p, int version, int depth) {
            int had = 0;
            for (int f = firstField(p); f < endField(p); f++) {
                int part = pool.field(v, nameOfField(f));
                if (part == NONE ? !mayMiss(f) : partFor(part, shapeOfField(f), version, depth + 1) == NONE) {
                    return false;
                }
                had += part == NONE ? 0 : 1;
            }
            return had == pool.sizeOf(v);
        }

        // -- texts of shapes

        void tellSchema(int version, Buf to) {
            for (int d = 0; d < definitions(version); d++) {
                tellDefinitionName(version, d, to);
                tellShape(shapeAt(version, d), to, 0);
                to.add(';');
            }
        }

        void tellDefinitionName(int version, int d, Buf to) {
            to.addLetters(nameOf(version, d), true);
            to.add('=');
        }

        private void tellShape(int shapeCode, Buf to, int depth) {
            for (int p = firstOf(shapeCode); p < endOf(shapeCode) && depth <= MOST_BRACKETS; p++) {
                if (p > firstOf(shapeCode)) {
                    to.add('|');
                }
                tellPart(p, to, depth);
            }
        }

        private void tellPart(int p, Buf to, int depth) {
            switch (kindOf(p)) {
                case NUMBER:
                    tellNum(lowOf(p), highOf(p), to);
                    break;
                case TEXT:
                    tellItems(p, to);
                    break;
                case LIST:
                    to.add('[');
                    tellShape(innerOf(p), to, depth + 1);
                    if (lowOf(p) != 0 || highOf(p) != MOST_ITEMS) {
                        to.add(';');
                        tellInts(lowOf(p), highOf(p), to);
                    }
                    to.add(']');
                    break;
                case RECORD:
                    to.add('{');
                    for (int f = firstField(p); f < endField(p); f++) {
                        to.addComma('{');
                        tellField(f, to, depth + 1);
                    }
                    to.add('}');
                    break;
                case TAGGED:
                    to.addLetters(lowOf(p), true);
                    to.add('(');
                    tellShape(innerOf(p), to, depth + 1);
                    to.add(')');
                    break;
                case MAP:
                    to.add('<');
                    tellShape(innerOf(p), to, depth + 1);
                    to.add('>');
                    break;
                case REF:
                    to.add('@');
                    to.addLetters(nameOf(p / MOST_PARTS, lowOf(p)), true);
                    break;
                default:
                    to.addWord("none");
                    break;
            }
        }

        /** The name of a field and its shape. */
        private void tellField(int f, Buf to, int depth) {
            tellFieldName(nameOfField(f), mayMiss(f), to);
            tellShape(shapeOfField(f), to, depth);
        }

        static void tellFieldName(int fieldCode, boolean may, Buf to) {
            to.addLetters(fieldCode, false);
            if (may) {
                to.add('?');
            }
            to.add(':');
        }

        static void tellNum(int least, int most, Buf to) {
            to.addWord("num");
            if (least != -MOST_NUMBER || most != MOST_NUMBER) {
                to.add('(');
                to.addNumber(least);
                to.addWord("..");
                to.addNumber(most);
                to.add(')');
            }
        }

        static void tellInts(int least, int most, Buf to) {
            to.addNumber(least);
            to.addWord("..");
            to.addNumber(most);
        }

        private void tellItems(int p, Buf to) {
            to.addWord("text");
            if (highOf(p) == 0) {
                return;
            }
            to.add('(');
            for (int i = lowOf(p); i < lowOf(p) + highOf(p) && i >= 0 && i < item.length; i++) {
                to.add(item[i] / 3 == ANY ? '.' : 'a' + item[i] / 3);
                if (item[i] % 3 != 0) {
                    to.add(item[i] % 3 == STAR ? '*' : '?');
                }
            }
            to.add(')');
        }
    }

    /** A version: the change by which it came, as it was told, and what was found for its defaults. */
    private static final class Version {
        private final Buf text = new Buf(TAPE_ROOM);
        private final int[] told = new int[DEFAULTS];
        private final boolean[] may = new boolean[DEFAULTS];
        private final int[] shapeFrom = new int[DEFAULTS];
        private final int[] shapeTo = new int[DEFAULTS];
        /** Where the sum of a default begins and ends in the text; NONE if the default is a value. */
        private final int[] sumFrom = new int[DEFAULTS];
        private final int[] sumTo = new int[DEFAULTS];
        /** The default if it is a value, otherwise the least value of its shape. */
        private final int[] value = new int[DEFAULTS];
        private int parent = NONE;
        private int kind = NONE;
        private int definition;
        private int factor;
        private int tag;
        private int toldCount;
        /** The least value of the shape that a field had ahead of RETYPE. */
        private int oldLeast = NONE;

        void come(int newParent, int newKind, int newDefinition, int newFactor, Buf newText) {
            parent = newParent;
            kind = newKind;
            definition = newDefinition;
            factor = newFactor;
            text.wipe();
            text.addPart(newText, 0, newText.size());
            tag = 0;
            toldCount = 0;
            oldLeast = NONE;
        }

        void tellName(int newName) {
            if (toldCount >= 0 && toldCount < told.length) {
                told[toldCount] = newName;
                sumFrom[toldCount] = NONE;
                value[toldCount] = NONE;
            }
            toldCount++;
        }

        void tellFieldShape(boolean newMay, int from, int to) {
            int i = toldCount - 1;
            if (i >= 0 && i < told.length) {
                may[i] = newMay;
                shapeFrom[i] = from;
                shapeTo[i] = to;
            }
        }

        /** The default of the name that was told last. */
        void tellDefault(int newValue, int from, int to) {
            int i = toldCount - 1;
            if (i >= 0 && i < told.length) {
                value[i] = newValue;
                sumFrom[i] = from;
                sumTo[i] = to;
            }
        }

        /** How many names were told, as far as they are kept. */
        int names() {
            return Math.min(toldCount, told.length);
        }

        int nameAt(int i) {
            return i >= 0 && i < told.length ? told[i] : 0;
        }

        int valueAt(int i) {
            return i >= 0 && i < value.length ? value[i] : NONE;
        }

        void setValue(int i, int newValue) {
            if (i >= 0 && i < value.length) {
                value[i] = newValue;
            }
        }

        int sumStart(int i) {
            return i >= 0 && i < sumFrom.length ? sumFrom[i] : NONE;
        }

        int sumEnd(int i) {
            return i >= 0 && i < sumTo.length ? sumTo[i] : NONE;
        }

        boolean tells(int wanted) {
            for (int i = 0; i < names(); i++) {
                if (nameAt(i) == wanted) {
                    return true;
                }
            }
            return false;
        }

        /** A told field comes behind the bytes: its name and its shape as told. */
        void tellField(int i, boolean newMay, Buf to) {
            if (i >= 0 && i < told.length) {
                Schemas.tellFieldName(told[i], newMay, to);
                to.addPart(text, shapeFrom[i], shapeTo[i]);
            }
        }
    }

    /** Reads texts and finds their faults. */
    private static final class Reader {
        private static final int STACK = 1024;

        private final Pool pool;
        private final Schemas schemas;
        /** Parts and fields of shapes that are still being read: in rows of four and three. */
        private final int[] parts = new int[STACK * 4];
        private final int[] fields = new int[STACK * 3];
        private final int[] stepKind = new int[MOST_STEPS];
        private final int[] stepName = new int[MOST_STEPS];
        private Buf text = new Buf(0);
        private int at;
        private int fault;
        private int depth;
        private int partTop;
        private int fieldTop;
        private int operands;
        private int steps;
        /** Something does not hold that the grammar does not tell. */
        private boolean odd;
        /** Whether shapes are put on a shelf, and not only looked at. */
        private boolean builds;

        Reader(Pool values, Schemas shapes) {
            pool = values;
            schemas = shapes;
        }

        int faultOf() {
            return fault;
        }

        int stepCount() {
            return Math.min(steps, MOST_STEPS);
        }

        int stepKindAt(int i) {
            return i >= 0 && i < stepKind.length ? stepKind[i] : NONE;
        }

        int stepNameAt(int i) {
            return i >= 0 && i < stepName.length ? stepName[i] : 0;
        }

        // -- whole texts

        private void open(Buf told, boolean building) {
            text = told;
            at = 0;
            fault = NONE;
            depth = 0;
            partTop = 0;
            fieldTop = 0;
            operands = 0;
            steps = 0;
            odd = false;
            builds = building;
        }

        private void finish() {
            if (fault == NONE && at < text.size()) {
                fault = at;
            }
            if (fault == NONE && odd) {
                fault = text.size() + 1;
            }
        }

        int readValueText(Buf told) {
            open(told, false);
            int value = readValue();
            odd = odd || pool.nodesOf(value) > MOST_NODES;
            finish();
            return value;
        }

        void readSchema(Buf told, int version) {
            open(told, true);
            schemas.open(version);
            for (int i = 0; i <= text.size() && (i == 0 || hasMore()); i++) {
                int name = readTag();
                expect('=');
                int shape = readShape();
                expect(';');
                if (!schemas.addDefinition(name, shape)) {
                    odd = true;
                }
            }
            if (fault == NONE && !odd && !(schemas.isNamed() && schemas.isLed() && schemas.isSpread())) {
                odd = true;
            }
            finish();
        }

        void readPath(Buf told) {
            open(told, false);
            for (int i = 0; i <= text.size() && (i == 0 || hasMore()); i++) {
                readStep();
            }
            odd = steps > MOST_STEPS;
            finish();
        }

        /** Reads the text of a change of the kind that the version has. */
        void readChange(Version version) {
            open(version.text, false);
            switch (version.kind) {
                case ADD:
                    readAdded(version);
                    break;
                case DROP:
                case REQUIRE:
                    version.tellName(readName());
                    readDefault(version);
                    break;
                case RENAME:
                case MOVE:
                case LIFT:
                    readNames(version, 2);
                    break;
                case SPLIT:
                case JOIN:
                    readNames(version, 3);
                    break;
                case RETYPE:
                    version.tellName(readName());
                    readToldShape(version, false);
                    readDefault(version);
                    break;
                case WRAP:
                    readNames(version, 1);
                    expect(',');
                    version.tag = readTag();
                    break;
                default:
                    readNames(version, 1);
                    break;
            }
            finish();
        }

        private void readAdded(Version version) {
            boolean more = true;
            for (int i = 0; i <= text.size() && more; i++) {
                version.tellName(readName());
                readToldShape(version, skip('?'));
                readDefault(version);
                more = skip(',');
            }
        }

        private void readNames(Version version, int count) {
            for (int i = 0; i < count; i++) {
                if (i > 0) {
                    expect(',');
                }
                version.tellName(readName());
            }
        }

        private void readToldShape(Version version, boolean may) {
            expect(':');
            int from = at;
            readShape();
            version.tellFieldShape(may, from, at);
        }

        private void readDefault(Version version) {
            expect('=');
            if (peek() != '(') {
                int value = readValue();
                odd = odd || pool.nodesOf(value) > MOST_NODES;
                version.tellDefault(value, NONE, NONE);
                return;
            }
            operands = 0;
            openBracket('(');
            int from = at;
            readSum();
            version.tellDefault(NONE, from, at);
            closeBracket(')');
            if (operands > 4) {
                odd = true;
            }
        }

        // -- signs

        private int peek() {
            return fault == NONE && at >= 0 && at < text.count && at < text.bytes.length ? text.bytes[at] & 255 : NONE;
        }

        private boolean hasMore() {
            return fault == NONE && at < text.count;
        }

        private void miss() {
            if (fault == NONE) {
                fault = at;
            }
        }

        private boolean skip(int sign) {
            boolean there = fault == NONE && at >= 0 && at < text.count && at < text.bytes.length && (text.bytes[at] & 255) == sign;
            at += there ? 1 : 0;
            return there;
        }

        private void expect(int sign) {
            if (!skip(sign)) {
                miss();
            }
        }

        private void openBracket(int sign) {
            if (depth >= MOST_BRACKETS || !skip(sign)) {
                miss();
            } else {
                depth++;
            }
        }

        private void closeBracket(int sign) {
            if (!skip(sign)) {
                miss();
            }
            depth--;
        }

        private static boolean isSmall(int sign) {
            return sign >= 'a' && sign <= 'z';
        }

        private static boolean isCapital(int sign) {
            return sign >= 'A' && sign <= 'Z';
        }

        private static boolean isDigit(int sign) {
            return sign >= '0' && sign <= '9';
        }

        /** Letters behind those that a code has already. */
        private long readLetters(long code, int most) {
            long read = code;
            for (int i = 0; i < most && isSmall(peek()); i++) {
                read = read * 27 + peek() - 'a' + 1;
                at++;
            }
            return read;
        }

        private int readName() {
            if (!isSmall(peek())) {
                miss();
            }
            return (int) readLetters(0, 4);
        }

        private int readTag() {
            int first = peek();
            if (!isCapital(first)) {
                miss();
                return 0;
            }
            at++;
            return (int) readLetters(first - 'A' + 1, 3);
        }

        private int readNumber() {
            boolean below = skip('-');
            if (!isDigit(peek()) || below && peek() == '0') {
                miss();
                return 0;
            }
            if (skip('0')) {
                return 0;
            }
            int number = 0;
            for (int i = 0; i < 4 && isDigit(peek()); i++) {
                number = number * 10 + peek() - '0';
                at++;
            }
            return below ? -number : number;
        }

        private long readLiteral() {
            expect('\'');
            long letters = readLetters(0, 8);
            expect('\'');
            return letters;
        }

        // -- values

        /** Brackets guard the depth: none is opened inside 12 others. */
        private int readValue() {
            int sign = peek();
            if (isDigit(sign) || sign == '-') {
                return pool.number(readNumber());
            }
            if (sign == '\'') {
                return pool.text(readLiteral());
            }
            if (depth >= MOST_BRACKETS) {
                miss();
                return NONE;
            }
            if (sign == '[') {
                return readRow(LIST, '[', ']');
            }
            if (sign == '{') {
                return readRow(RECORD, '{', '}');
            }
            if (sign == '<') {
                return readRow(MAP, '<', '>');
            }
            int mark = pool.stackMark();
            int tag = readTag();
            openBracket('(');
            if (fault == NONE) {
                pool.push(0, readValue());
            }
            closeBracket(')');
            return pool.close(TAGGED, tag, mark);
        }

        private int readRow(int kind, int first, int last) {
            int mark = pool.stackMark();
            openBracket(first);
            long before = NONE;
            boolean more = peek() != last;
            for (int i = 0; i <= text.size() && more && fault == NONE; i++) {
                long label = 0;
                if (kind != LIST) {
                    label = kind == RECORD ? readName() : readLiteral();
                    expect(':');
                    if (label <= before) {
                        odd = true;
                    }
                    before = label;
                }
                if (fault == NONE) {
                    pool.push(label, readValue());
                }
                more = skip(',');
                if (i >= MOST_ITEMS) {
                    odd = true;
                }
            }
            closeBracket(last);
            return pool.close(kind, 0, mark);
        }

        // -- shapes

        private int readShape() {
            int mark = partTop;
            boolean more = fault == NONE;
            for (int i = 0; i <= text.size() && more; i++) {
                readPart();
                more = skip('|');
            }
            int count = (partTop - mark) / 4;
            partTop = mark;
            if (!builds || fault != NONE) {
                return 0;
            }
            int first = schemas.partMark();
            for (int i = 0; i < count && mark + i * 4 + 3 < parts.length; i++) {
                int p = mark + i * 4;
                if (!schemas.addPart(parts[p], parts[p + 1], parts[p + 2], parts[p + 3])) {
                    odd = true;
                }
            }
            if (count > MOST_LED) {
                odd = true;
                return 0;
            }
            return first * 8 + count;
        }

        private void pushPart(int kind, int low, int high, int inner) {
            if (partTop < 0 || partTop + 3 >= parts.length) {
                odd = true;
                return;
            }
            parts[partTop] = kind;
            parts[partTop + 1] = low;
            parts[partTop + 2] = high;
            parts[partTop + 3] = inner;
            partTop += 4;
        }

        private void readPart() {
            int sign = peek();
            if (sign == 'n') {
                readNoneOrNumbers();
            } else if (sign == 't') {
                readItems();
            } else if (sign == '@') {
                at++;
                pushPart(REF, readTag(), 0, 0);
            } else if (depth >= MOST_BRACKETS) {
                miss();
            } else if (sign == '[') {
                readListPart();
            } else if (sign == '{') {
                readRecordPart();
            } else if (sign == '<') {
                openBracket('<');
                int inner = readShape();
                closeBracket('>');
                pushPart(MAP, 0, MOST_ITEMS, inner);
            } else {
                int tag = readTag();
                openBracket('(');
                int inner = readShape();
                closeBracket(')');
                pushPart(TAGGED, tag, 0, inner);
            }
        }

        private void readNoneOrNumbers() {
            expect('n');
            if (skip('o')) {
                expect('n');
                expect('e');
                pushPart(NOTHING, 0, 0, 0);
                return;
            }
            expect('u');
            expect('m');
            int low = -MOST_NUMBER;
            int high = MOST_NUMBER;
            if (peek() == '(') {
                openBracket('(');
                low = readNumber();
                expect('.');
                expect('.');
                high = readNumber();
                closeBracket(')');
                if (low > high) {
                    odd = true;
                }
            }
            pushPart(NUMBER, low, high, 0);
        }

        private void readItems() {
            expect('t');
            expect('e');
            expect('x');
            expect('t');
            int first = schemas.itemMark();
            int count = 0;
            if (peek() == '(') {
                openBracket('(');
                int behind = 0;
                boolean loose = false;
                for (int i = 0; i <= text.size() && (i == 0 || isItem(peek())); i++) {
                    behind += loose ? 1 : 0;
                    loose = readItem() || loose;
                    count++;
                }
                closeBracket(')');
                if (count > MOST_ITEMS || behind > 2) {
                    odd = true;
                }
            }
            pushPart(TEXT, first, count, 0);
        }

        private static boolean isItem(int sign) {
            return sign == '.' || sign >= 'a' && sign <= 'z';
        }

        /** Tells whether the item is with a star or a question mark. */
        private boolean readItem() {
            int sign = peek();
            if (!isItem(sign)) {
                miss();
                return false;
            }
            at++;
            int times = skip('*') ? Schemas.STAR : skip('?') ? 2 : 0;
            if (builds && !schemas.addItem(sign == '.' ? Schemas.ANY : sign - 'a', times)) {
                odd = true;
            }
            return times != 0;
        }

        private void readListPart() {
            openBracket('[');
            int inner = readShape();
            int low = 0;
            int high = MOST_ITEMS;
            if (skip(';')) {
                low = readNumber();
                expect('.');
                expect('.');
                high = readNumber();
                if (low < 0 || high > MOST_ITEMS || low > high) {
                    odd = true;
                }
            }
            closeBracket(']');
            pushPart(LIST, low, high, inner);
        }

        private void readRecordPart() {
            int mark = fieldTop;
            openBracket('{');
            boolean more = peek() != '}';
            for (int i = 0; i <= text.size() && more && fault == NONE; i++) {
                int name = readName();
                boolean may = skip('?');
                expect(':');
                pushField(mark, name, readShape(), may ? 1 : 0);
                more = skip(',');
            }
            closeBracket('}');
            int count = (fieldTop - mark) / 3;
            int first = schemas.fieldMark();
            fieldTop = mark;
            if (!builds) {
                pushPart(RECORD, 0, 0, 0);
                return;
            }
            for (int f = mark; f < mark + count * 3 && f + 2 < fields.length; f += 3) {
                boolean twice = f > mark && fields[f] == fields[f - 3];
                if (twice || count > MOST_FIELDS || !schemas.addField(fields[f], fields[f + 1], fields[f + 2] != 0)) {
                    odd = true;
                }
            }
            pushPart(RECORD, first, count, 0);
        }

        /** Puts a field among those since the mark, by rising names. */
        private void pushField(int mark, int name, int shape, int may) {
            if (fieldTop < 0 || fieldTop + 2 >= fields.length) {
                odd = true;
                return;
            }
            int f = fieldTop;
            for (int i = 0; i < STACK && f - 3 >= mark && f >= 3 && fields[f - 3] > name; i++) {
                fields[f] = fields[f - 3];
                fields[f + 1] = fields[f - 2];
                fields[f + 2] = fields[f - 1];
                f -= 3;
            }
            fields[f] = name;
            fields[f + 1] = shape;
            fields[f + 2] = may;
            fieldTop += 3;
        }

        // -- sums and paths

        private void readSum() {
            boolean more = fault == NONE;
            for (int i = 0; i <= text.size() && more; i++) {
                readProduct();
                more = skip('+') || skip('-');
            }
        }

        private void readProduct() {
            boolean more = fault == NONE;
            for (int i = 0; i <= text.size() && more; i++) {
                readFactor();
                more = skip('*');
            }
        }

        private void readFactor() {
            if (peek() == '(') {
                openBracket('(');
                if (fault == NONE) {
                    readSum();
                }
                closeBracket(')');
                return;
            }
            operands++;
            if (isSmall(peek())) {
                readName();
            } else {
                readNumber();
            }
        }

        private void readStep() {
            int kind = FIELD_STEP;
            int name = 0;
            if (skip('[')) {
                expect(']');
                kind = ITEM_STEP;
            } else if (skip('<')) {
                expect('>');
                kind = ENTRY_STEP;
            } else if (skip('!')) {
                name = readTag();
                kind = TAG_STEP;
            } else {
                expect('.');
                name = readName();
            }
            if (steps >= 0 && steps < MOST_STEPS) {
                stepKind[steps] = kind;
                stepName[steps] = name;
            }
            steps++;
        }
    }

    /**
     * Searches for the first text that fits one of some parts, one of some others, and none of still others. It is
     * spelled letter by letter, each one being the first with which the text can still be ended. Nothing that was
     * tried is kept, so that there is no bound on how much there is to try.
     */
    private static final class Texts {
        private static final int PLACES = MOST_ITEMS + 1, ROOM = Solver.AGAINST * MOST_LED;

        private final Schemas schemas;
        /** The parts that the text must fit; the second one is NONE if there is just one. */
        private int first;
        private int second;
        /** The parts that it must not fit. */
        private final int[] avoided = new int[ROOM];
        private int avoidedCount;
        /** By how many letters are to come: for each avoided part the places from which these can lead to its end. */
        private final int[][] ends = new int[MOST_LETTERS + 1][ROOM];
        /** By how many letters are to come, and by places in the first part: the places in the second one from which both can end. */
        private final int[][] meets = new int[MOST_LETTERS + 1][PLACES];
        /** By how many letters there are: the places in the two parts, and those in each avoided part from which it can still end. */
        private final int[][] places = new int[MOST_LETTERS + 1][2 + ROOM];

        Texts(Schemas shapes) {
            schemas = shapes;
        }

        /** The letters of the text; NONE if there is none. The sides are the parts to which shapes lead. */
        long find(int[][] lead, int[] leadCount) {
            if (lead.length < 3 || leadCount.length < 3) {
                return NONE;
            }
            takeAvoided(lead[2], leadCount[2]);
            int others = leadCount[1] == NONE ? 1 : leadCount[1];
            long best = NONE;
            for (int i = 0; i < leadCount[0] && i < lead[0].length; i++) {
                for (int j = 0; j < others && j < lead[1].length; j++) {
                    first = lead[0][i];
                    second = leadCount[1] == NONE ? NONE : lead[1][j];
                    boolean areTexts = schemas.kindOf(first) == TEXT && (second == NONE || schemas.kindOf(second) == TEXT);
                    long found = areTexts ? firstText() : NONE;
                    best = found != NONE && (best == NONE || found < best) ? found : best;
                }
            }
            return best;
        }

        private void takeAvoided(int[] lead, int leadCount) {
            avoidedCount = 0;
            for (int i = 0; i < leadCount && i < lead.length; i++) {
                if (schemas.kindOf(lead[i]) == TEXT && avoidedCount < ROOM) {
                    avoided[avoidedCount] = lead[i];
                    ends[0][avoidedCount] = 1 << schemas.highOf(lead[i]);
                    for (int rest = 1; rest <= MOST_LETTERS; rest++) {
                        ends[rest][avoidedCount] = endsBefore(lead[i], ends[rest - 1][avoidedCount]);
                    }
                    avoidedCount++;
                }
            }
        }

        /** The places in a part from which one letter can lead to one of some others. */
        private int endsBefore(int p, int wanted) {
            int found = 0;
            for (int i = 0; i < PLACES; i++) {
                int sign = schemas.signAt(p, i);
                found |= sign != NONE && (schemas.stepPlaces(p, 1 << i, sign) & wanted) != 0 ? 1 << i : 0;
            }
            return found;
        }

        /** The first text that fits the two parts, and none of the avoided ones; NONE if there is none. */
        private long firstText() {
            findMeets();
            long text = NONE;
            for (int letters = 0; letters <= MOST_LETTERS && text == NONE; letters++) {
                start(letters);
                text = canEnd(0, letters) ? 0 : NONE;
                for (int behind = 0; behind < letters && behind < places.length && text != NONE; behind++) {
                    int letter = 0;
                    step(behind, letters - behind, places[behind][0], letter);
                    while (letter < Schemas.ANY - 1 && !canEnd(behind + 1, letters - behind - 1)) {
                        letter++;
                        step(behind, letters - behind, places[behind][0], letter);
                    }
                    text = text * 27 + letter + 1;
                }
            }
            return text;
        }

        private void findMeets() {
            for (int i = 0; i < PLACES; i++) {
                meets[0][i] = i == schemas.highOf(first) ? 1 << schemas.highOf(second) : 0;
            }
            for (int rest = 1; rest <= MOST_LETTERS; rest++) {
                for (int i = 0; i < PLACES; i++) {
                    meets[rest][i] = 0;
                    for (int j = 0; j < PLACES; j++) {
                        meets[rest][i] |= leadOn(rest, i, j) ? 1 << j : 0;
                    }
                }
            }
        }

        /** Whether a letter can lead from places in both parts to some from which both can end. */
        private boolean leadOn(int rest, int i, int j) {
            int sign = schemas.signAt(first, i);
            int other = schemas.signAt(second, j);
            boolean fit = sign != NONE && other != NONE && (sign == other || sign == Schemas.ANY || other == Schemas.ANY);
            int letter = sign == Schemas.ANY ? other : sign;
            int mine = fit ? schemas.stepPlaces(first, 1 << i, letter) : 0;
            return fit && areMet(mine, schemas.stepPlaces(second, 1 << j, letter), rest - 1);
        }

        private boolean areMet(int mine, int others, int rest) {
            boolean met = false;
            for (int i = 0; i < PLACES && rest >= 0 && rest < meets.length; i++) {
                met = met || (mine >> i & 1) != 0 && (meets[rest][i] & others) != 0;
            }
            return met;
        }

        private void start(int letters) {
            places[0][0] = schemas.startPlaces(first);
            places[0][1] = schemas.startPlaces(second);
            for (int k = 0; k < avoidedCount && k < ROOM && letters >= 0 && letters < ends.length; k++) {
                places[0][2 + k] = schemas.startPlaces(avoided[k]) & ends[letters][k];
            }
        }

        /** By a letter, of those that are still to come, to the next places, in the first part from some alone. */
        private void step(int behind, int rest, int from, int letter) {
            if (behind < 0 || behind + 1 >= places.length || rest < 1 || rest > ends.length) {
                return;
            }
            places[behind + 1][0] = schemas.stepPlaces(first, from, letter);
            places[behind + 1][1] = schemas.stepPlaces(second, places[behind][1], letter);
            for (int k = 0; k < avoidedCount && k < ROOM; k++) {
                places[behind + 1][2 + k] = schemas.stepPlaces(avoided[k], places[behind][2 + k], letter) & ends[rest - 1][k];
            }
        }

        /** Whether the letters that are to come can lead the two parts to their ends, and no avoided one. */
        private boolean canEnd(int behind, int rest) {
            if (behind < 0 || behind >= places.length || !areMet(places[behind][0], places[behind][1], rest)) {
                return false;
            }
            boolean open = false;
            for (int k = 0; k < avoidedCount && k < ROOM; k++) {
                open = open || places[behind][2 + k] != 0;
            }
            for (int sign = Schemas.ANY; sign >= 0 && open && rest > 0; sign--) {
                int from = placesOf(places[behind][0], sign);
                int idle = sign == Schemas.ANY && from != 0 ? idleLetter(behind, rest) : sign;
                int last = idle == NONE ? Schemas.ANY - 1 : idle;
                for (int letter = idle == NONE ? 0 : idle; letter <= last && from != 0; letter++) {
                    step(behind, rest, from, letter);
                    if (canEnd(behind + 1, rest - 1)) {
                        return true;
                    }
                }
            }
            return !open;
        }

        /** Of places in the first part those ahead of a sign. */
        private int placesOf(int from, int sign) {
            int found = 0;
            for (int i = 0; i < PLACES; i++) {
                found |= (from >> i & 1) != 0 && schemas.signAt(first, i) == sign ? 1 << i : 0;
            }
            return found;
        }

        /**
         * A letter with which each avoided part can go on only where it can with any letter: where the first part
         * takes any letter, no other one is better. NONE if there is none, or the second part could need another one.
         */
        private int idleLetter(int behind, int rest) {
            if (second != NONE || behind < 0 || behind >= places.length || rest < 1 || rest > ends.length) {
                return NONE;
            }
            int busy = 0;
            for (int k = 0; k < avoidedCount && k < ROOM; k++) {
                int from = places[behind][2 + k];
                int least = schemas.stepPlaces(avoided[k], from, Schemas.ANY) & ends[rest - 1][k];
                for (int i = 0; i < PLACES && from != 0; i++) {
                    int sign = (from >> i & 1) != 0 ? schemas.signAt(avoided[k], i) : NONE;
                    boolean named = sign != NONE && sign != Schemas.ANY;
                    busy |= named && (schemas.stepPlaces(avoided[k], from, sign) & ends[rest - 1][k]) != least ? 1 << sign : 0;
                }
            }
            int letter = NONE;
            for (int i = Schemas.ANY - 1; i >= 0; i--) {
                letter = (busy >> i & 1) == 0 ? i : letter;
            }
            return letter;
        }
    }

    /**
     * Finds the least value that is of one shape, or of two, and of none of some others. Such a task is a state; a
     * value of a state is put together of the least values of states with fewer nodes, so that all states get theirs
     * by rising nodes.
     */
    private static final class Solver {
        private static final int STATES = 10000, HASH = 32768, AGAINST = 6, SETS = 1 << AGAINST, FAR = 10000;
        /** The places in the row of a state. */
        private static final int FIRST = 0, SECOND = 1, NOTS = 2, NOT = 3, VALUE = NOT + AGAINST, SEEN = VALUE + 1, WAIT = SEEN + 1, SPOT = WAIT + 1, STRIDE = SPOT + 1;
        /** The rows of the fields of records that are put together. */
        private static final int NAME = 0, SHAPE = 1, OTHER = 2, MAY = 3, GONE = 4, COME = 5, CAN = 6;

        private final Pool pool;
        private final Schemas schemas;
        private final Texts texts;
        private final int[] version = new int[3];
        private final int[] state = new int[STATES * STRIDE];
        private final int[] hash = new int[HASH];
        private int count;
        private int settled;
        /** Of the state in hand: the parts to which its shapes lead, those of the second one, those that are not to be. */
        private final int[][] lead = new int[3][AGAINST * MOST_LED];
        private final int[] leadCount = new int[3];
        private final int[] against = new int[AGAINST];
        private final int[] avoided = new int[AGAINST];
        private int againstCount;
        private final int[] key = new int[AGAINST];
        private int keyCount;
        /** By items and by sets of what is against it: the least values, and the nodes of what is still to come. */
        private final int[][] cell = new int[MOST_ITEMS + 1][SETS];
        private final int[][] sum = new int[MOST_ITEMS + 2][SETS];
        private final int[][] field = new int[CAN + 1][MOST_ITEMS];
        private int fieldCount;

        Solver(Pool values, Schemas shapes) {
            pool = values;
            schemas = shapes;
            texts = new Texts(shapes);
        }

        // -- what is asked

        /** The next task is the least value of a shape. */
        void askLeast(int shape, int by) {
            reset(by, by, by);
            ask(shape, NONE);
        }

        /** The next task is the least value that is of the first shape and not of the second one. */
        void askApart(int shape, int by, int other, int otherBy) {
            reset(by, by, otherBy);
            keyCount = 0;
            addKey(other);
            stateOf(shape, NONE);
        }

        /** The next task is the least value that is of both shapes. */
        void askShared(int shape, int by, int other, int otherBy) {
            reset(by, otherBy, by);
            ask(shape, other);
        }

        /** The next tasks are the common values of all two parts of one shape of a version; returns how many these are. */
        int askOverlaps(int by) {
            reset(by, by, by);
            for (int d = 0; d < schemas.definitions(by); d++) {
                askPairs(schemas.shapeAt(by, d), by);
            }
            for (int p = by * MOST_PARTS; p < schemas.endOfShelf(by); p++) {
                int k = schemas.kindOf(p);
                if (k == LIST || k == TAGGED || k == MAP) {
                    askPairs(schemas.innerOf(p), by);
                }
                for (int f = schemas.firstField(p); f < schemas.endField(p); f++) {
                    askPairs(schemas.shapeOfField(f), by);
                }
            }
            return count;
        }

        private void askPairs(int shape, int by) {
            int found = schemas.leads(shape, by, lead[0], 0);
            for (int i = 0; i < found && i < lead[0].length; i++) {
                for (int j = i + 1; j < found && j < lead[0].length; j++) {
                    if (schemas.kindOf(lead[0][i]) == schemas.kindOf(lead[0][j])) {
                        ask(Schemas.alone(lead[0][i]), Schemas.alone(lead[0][j]));
                    }
                }
            }
        }

        // -- states

        private void reset(int first, int second, int not) {
            version[0] = first;
            version[1] = second;
            version[2] = not;
            for (int s = 0; s < count; s++) {
                int spot = get(s, SPOT);
                if (spot >= 0 && spot < hash.length) {
                    hash[spot] = 0;
                }
            }
            count = 0;
            settled = 0;
        }

        private int get(int s, int place) {
            int at = s * STRIDE + place;
            return s >= 0 && at >= 0 && at < state.length ? state[at] : NONE;
        }

        private void set(int s, int place, int now) {
            int at = s * STRIDE + place;
            if (s >= 0 && at >= 0 && at < state.length) {
                state[at] = now;
            }
        }

        private void ask(int first, int second) {
            keyCount = 0;
            stateOf(first, second);
        }

        /** Puts a shape into the key, once, by rising numbers. */
        private void addKey(int told) {
            int shape = schemas.behindRef(told, version[2]);
            int at = keyCount;
            for (int i = 0; i < keyCount && i < key.length; i++) {
                if (key[i] == shape) {
                    return;
                }
            }
            if (keyCount < 0 || keyCount >= key.length) {
                return;
            }
            for (int i = 0; i < key.length && at > 0 && key[at - 1] > shape; i++) {
                key[at] = key[at - 1];
                at--;
            }
            key[at] = shape;
            keyCount++;
        }

        private boolean isState(int s, int first, int second) {
            int base = s * STRIDE;
            if (base < 0 || base + STRIDE > state.length) {
                return false;
            }
            boolean same = state[base + FIRST] == first && state[base + SECOND] == second && state[base + NOTS] == keyCount;
            for (int i = 0; i < keyCount && i < key.length && same; i++) {
                same = state[base + NOT + i] == key[i];
            }
            return same;
        }

        /** The state of two shapes, or one, and of the key, found or begun; NONE if there is no more room. */
        private int stateOf(int told, int other) {
            int first = schemas.behindRef(told, version[0]);
            int second = other == NONE ? NONE : schemas.behindRef(other, version[1]);
            int mix = first * 31 + second;
            for (int i = 0; i < keyCount && i < key.length; i++) {
                mix = mix * 31 + key[i];
            }
            int spot = (mix ^ mix >>> 14) & HASH - 1;
            for (int i = 0; i < HASH; i++) {
                int at = spot + i & HASH - 1;
                int s = hash[at] - 1;
                if (s == NONE) {
                    return beginState(first, second, at);
                }
                if (isState(s, first, second)) {
                    return s;
                }
            }
            return NONE;
        }

        private int beginState(int first, int second, int spot) {
            int base = count * STRIDE;
            if (count >= STATES || base < 0 || base + STRIDE > state.length) {
                return NONE;
            }
            state[base + FIRST] = first;
            state[base + SECOND] = second;
            state[base + NOTS] = keyCount;
            for (int i = 0; i < keyCount && i < key.length; i++) {
                state[base + NOT + i] = key[i];
            }
            state[base + VALUE] = NONE;
            state[base + SEEN] = NONE;
            state[base + WAIT] = FAR;
            state[base + SPOT] = spot;
            if (spot >= 0 && spot < hash.length) {
                hash[spot] = count + 1;
            }
            count++;
            return count - 1;
        }

        // -- solving

        /** The least value of the first of the first states that has one; NONE if none has one. */
        int solve(int roots) {
            for (int n = 1; n <= MOST_NODES; n++) {
                for (int s = 0; s < count && s < STATES; s++) {
                    boolean changed = get(s, SEEN) != settled || get(s, WAIT) <= n;
                    if (get(s, VALUE) == NONE && changed) {
                        load(s);
                        int number = n == 1 ? leastNumber() : FAR;
                        long letters = n == 1 && number == FAR ? texts.find(lead, leadCount) : NONE;
                        int leaf = number != FAR ? pool.number(number) : letters != NONE ? pool.text(letters) : NONE;
                        settle(s, leaf != NONE ? leaf : around(s, n));
                    }
                }
                for (int s = 0; s < roots && s < count; s++) {
                    if (get(s, VALUE) != NONE) {
                        return get(s, VALUE);
                    }
                }
            }
            return NONE;
        }

        private void settle(int s, int value) {
            set(s, VALUE, value);
            settled += value == NONE ? 0 : 1;
        }

        /** The least value of a state that has others in it, if it has just so many nodes; NONE otherwise. */
        private int around(int s, int n) {
            set(s, SEEN, settled);
            set(s, WAIT, FAR);
            pool.hold();
            int value = NONE;
            for (int kind = LIST; kind <= MAP && value == NONE; kind++) {
                for (int i = 0; i < leadCount[0]; i++) {
                    int p = part(0, i);
                    int others = hasSecond() ? leadCount[1] : 1;
                    for (int j = 0; j < others && schemas.kindOf(p) == kind; j++) {
                        int q = hasSecond() ? part(1, j) : NONE;
                        if (q == NONE || isAlike(p, q)) {
                            pickAgainst(p);
                            int other = kind == RECORD ? recordOf(s, p, q, n) : kind == TAGGED ? taggedOf(s, p, q, n) : rowOf(s, p, q, n);
                            value = lesser(value, other);
                        }
                    }
                }
            }
            return value;
        }

        /** The lesser one of two values, of which the second one was made last; the other one is given up. */
        private int lesser(int value, int other) {
            if (other == NONE || value != NONE && pool.order(other, value, 0) >= 0) {
                pool.drop(other);
                return value;
            }
            return pool.bringDown(other);
        }

        private boolean isAlike(int p, int q) {
            return schemas.kindOf(p) == schemas.kindOf(q) && (schemas.kindOf(p) != TAGGED || schemas.lowOf(p) == schemas.lowOf(q));
        }

        private void load(int s) {
            leadCount[0] = schemas.leads(get(s, FIRST), version[0], lead[0], 0);
            leadCount[1] = get(s, SECOND) == NONE ? 0 : schemas.leads(get(s, SECOND), version[1], lead[1], 0);
            leadCount[2] = 0;
            for (int i = 0; i < get(s, NOTS) && i < AGAINST; i++) {
                leadCount[2] = schemas.leads(get(s, NOT + i), version[2], lead[2], leadCount[2]);
            }
            if (get(s, SECOND) == NONE) {
                leadCount[1] = NONE;
            }
        }

        private int part(int side, int i) {
            return side >= 0 && side < lead.length && i >= 0 && i < leadCount[side] && i < lead[side].length ? lead[side][i] : NONE;
        }

        private boolean hasSecond() {
            return leadCount[1] != NONE;
        }

        // -- numbers and texts

        /** The first number by order; FAR if there is none. It is 0, or stands at an end of numbers. */
        private int leastNumber() {
            int best = nearer(FAR, 0);
            for (int side = 0; side < 3; side++) {
                for (int i = 0; i < leadCount[side]; i++) {
                    int p = part(side, i);
                    if (schemas.kindOf(p) == NUMBER) {
                        int out = side == 2 ? 1 : 0;
                        best = nearer(best, schemas.lowOf(p) - out);
                        best = nearer(best, schemas.highOf(p) + out);
                    }
                }
            }
            return best;
        }

        private int nearer(int best, int number) {
            boolean is = hasNumber(0, number) && (!hasSecond() || hasNumber(1, number)) && !hasNumber(2, number);
            boolean first = Math.abs(number) < Math.abs(best) || number > 0 && number == -best;
            return is && first ? number : best;
        }

        private boolean hasNumber(int side, int number) {
            for (int i = 0; i < leadCount[side]; i++) {
                int p = part(side, i);
                if (schemas.kindOf(p) == NUMBER && number >= schemas.lowOf(p) && number <= schemas.highOf(p)) {
                    return true;
                }
            }
            return false;
        }

        // -- values with values in them

        private int taggedOf(int s, int p, int q, int n) {
            avoidInner();
            int inner = valueOf(schemas.innerOf(p), q == NONE ? NONE : schemas.innerOf(q), (1 << againstCount) - 1);
            if (!isReached(s, costOf(inner) + 1, n)) {
                return NONE;
            }
            int mark = pool.stackMark();
            pool.push(0, inner);
            return pool.close(TAGGED, schemas.lowOf(p), mark);
        }

        private void avoidInner() {
            for (int j = 0; j < againstCount && j < AGAINST; j++) {
                avoided[j] = schemas.innerOf(against[j]);
            }
        }

        /** Notes how many nodes a candidate has, and tells whether it has those that are wanted. */
        private boolean isReached(int s, int nodes, int n) {
            set(s, WAIT, Math.min(get(s, WAIT), nodes));
            return nodes == n;
        }

        /** Takes the parts that the value must not be of, as far as they are like this one. */
        private void pickAgainst(int p) {
            againstCount = 0;
            for (int i = 0; i < leadCount[2]; i++) {
                int q = part(2, i);
                if (isAlike(p, q) && againstCount < AGAINST) {
                    against[againstCount] = q;
                    againstCount++;
                }
            }
        }

        /** The least value found so far of two shapes that is not of those in a set of the avoided ones. */
        private int valueOf(int shape, int other, int set) {
            keyCount = 0;
            for (int j = 0; j < againstCount; j++) {
                if ((set >> j & 1) != 0) {
                    addKey(avoided[j]);
                }
            }
            return get(stateOf(shape, other), VALUE);
        }

        private int costOf(int v) {
            return v == NONE ? FAR : pool.nodesOf(v);
        }

        // -- lists and maps

        private int rowOf(int s, int p, int q, int n) {
            int lowest = q == NONE ? schemas.lowOf(p) : Math.max(schemas.lowOf(p), schemas.lowOf(q));
            int highest = q == NONE ? schemas.highOf(p) : Math.min(schemas.highOf(p), schemas.highOf(q));
            avoidInner();
            for (int set = 0; set < 1 << againstCount; set++) {
                cell[0][set] = valueOf(schemas.innerOf(p), q == NONE ? NONE : schemas.innerOf(q), set);
            }
            int best = FAR;
            int bestSize = 0;
            for (int size = 0; size <= highest && size <= MOST_ITEMS; size++) {
                sumItems(size);
                int nodes = size < lowest ? FAR : sum[size][setFor(size)] + 1;
                if (nodes < best) {
                    best = nodes;
                    bestSize = size;
                }
            }
            return isReached(s, best, n) ? putRow(schemas.kindOf(p), bestSize) : NONE;
        }

        /** The set of those against it that could have so many items. */
        private int setFor(int size) {
            int set = 0;
            for (int j = 0; j < againstCount; j++) {
                if (schemas.lowOf(against[j]) <= size && size <= schemas.highOf(against[j])) {
                    set |= 1 << j;
                }
            }
            return set;
        }

        /** For each set the fewest nodes of so many items that keep out of all in it. */
        private void sumItems(int size) {
            for (int set = 0; set < 1 << againstCount; set++) {
                int least = size == 0 && set == 0 ? 0 : FAR;
                for (int part = 0; part <= set && size > 0; part++) {
                    if ((part & ~set) == 0) {
                        least = Math.min(least, costOf(cell[0][part]) + sum[size - 1][set & ~part]);
                    }
                }
                sum[size][set] = Math.min(least, FAR);
            }
        }

        private int putRow(int kind, int size) {
            int mark = pool.stackMark();
            int set = setFor(size);
            for (int i = 0; i < size; i++) {
                int part = bestItem(0, set, size - i - 1, sum[size - i][set], 0, 1);
                pool.push(kind == MAP ? i : 0, cell[0][part]);
                set &= ~part;
            }
            return pool.close(kind, 0, mark);
        }

        /**
         * Of the sets with which an item can come so that the sum is reached, the one with the least value, and of
         * those with the same one the greatest: more is kept out of then, and what follows is the least, too.
         */
        private int bestItem(int row, int set, int rest, int wanted, int extra, int scale) {
            int best = NONE;
            for (int part = 0; part <= set; part++) {
                boolean fits = (part & ~set) == 0 && cell[row][part] != NONE;
                if (fits && pool.nodesOf(cell[row][part]) * scale + extra + sum[rest][set & ~part] == wanted) {
                    int first = best == NONE ? -1 : pool.order(cell[row][part], cell[row][best], 0);
                    boolean more = first == 0 && Integer.bitCount(part) > Integer.bitCount(best);
                    best = first < 0 || more ? part : best;
                }
            }
            return best;
        }

        // -- records

        private int recordOf(int s, int p, int q, int n) {
            if (!joinFields(p, q)) {
                return NONE;
            }
            int set = weighFields();
            for (int i = 0; i < fieldCount && i < MOST_ITEMS; i++) {
                avoidField(i);
                for (int part = 0; part < 1 << againstCount; part++) {
                    boolean can = (part & ~field[CAN][i]) == 0;
                    cell[i][part] = can ? valueOf(field[SHAPE][i], field[OTHER][i], part) : NONE;
                }
            }
            sumFields();
            int nodes = sum[0][set] / 16 + 1;
            return isReached(s, sum[0][set] >= FAR ? FAR : nodes, n) ? putFields(set) : NONE;
        }

        private boolean joinFields(int p, int q) {
            fieldCount = 0;
            for (int f = schemas.firstField(p); f < schemas.endField(p); f++) {
                int g = q == NONE ? NONE : schemas.fieldNamed(q, schemas.nameOfField(f));
                if (q != NONE && g == NONE) {
                    if (!schemas.mayMiss(f)) {
                        return false;
                    }
                } else if (fieldCount < MOST_ITEMS) {
                    field[NAME][fieldCount] = schemas.nameOfField(f);
                    field[SHAPE][fieldCount] = schemas.shapeOfField(f);
                    field[OTHER][fieldCount] = g == NONE ? NONE : schemas.shapeOfField(g);
                    field[MAY][fieldCount] = schemas.mayMiss(f) && (g == NONE || schemas.mayMiss(g)) ? 1 : 0;
                    fieldCount++;
                }
            }
            for (int g = schemas.firstField(q); g < schemas.endField(q); g++) {
                if (schemas.fieldNamed(p, schemas.nameOfField(g)) == NONE && !schemas.mayMiss(g)) {
                    return false;
                }
            }
            return true;
        }

        /** Finds which of those against it a field keeps out of by being missing or there; returns those that are left. */
        private int weighFields() {
            int left = (1 << againstCount) - 1;
            for (int i = 0; i < fieldCount; i++) {
                field[GONE][i] = 0;
                field[COME][i] = 0;
                field[CAN][i] = 0;
            }
            for (int j = 0; j < againstCount; j++) {
                int shared = 0;
                for (int i = 0; i < fieldCount; i++) {
                    int f = schemas.fieldNamed(against[j], field[NAME][i]);
                    if (f == NONE) {
                        field[COME][i] |= 1 << j;
                    } else {
                        field[CAN][i] |= 1 << j;
                        field[GONE][i] |= schemas.mayMiss(f) ? 0 : 1 << j;
                        shared += schemas.mayMiss(f) ? 0 : 1;
                    }
                }
                if (shared < requiredIn(against[j])) {
                    left &= ~(1 << j);
                }
            }
            for (int i = 0; i < fieldCount; i++) {
                field[CAN][i] &= left;
            }
            return left;
        }

        private int requiredIn(int p) {
            int required = 0;
            for (int f = schemas.firstField(p); f < schemas.endField(p); f++) {
                required += schemas.mayMiss(f) ? 0 : 1;
            }
            return required;
        }

        private void avoidField(int i) {
            for (int j = 0; j < againstCount && j < AGAINST && i >= 0 && i < MOST_ITEMS; j++) {
                avoided[j] = schemas.shapeNamed(against[j], field[NAME][i]);
            }
        }

        /** For each set, from the last field on, 16 times the fewest nodes and the fewest fields with these. */
        private void sumFields() {
            for (int set = 0; set < 1 << againstCount; set++) {
                sum[fieldCount][set] = set == 0 ? 0 : FAR;
            }
            for (int i = fieldCount - 1; i >= 0; i--) {
                for (int set = 0; set < 1 << againstCount; set++) {
                    int least = field[MAY][i] != 0 ? sum[i + 1][set & ~field[GONE][i]] : FAR;
                    int open = set & ~field[COME][i];
                    for (int part = 0; part <= open; part++) {
                        if ((part & ~open) == 0 && cell[i][part] != NONE) {
                            least = Math.min(least, costOf(cell[i][part]) * 16 + 1 + sum[i + 1][open & ~part]);
                        }
                    }
                    sum[i][set] = Math.min(least, FAR);
                }
            }
        }

        /** A field that comes early makes the record less, so it comes if it can. */
        private int putFields(int set) {
            int mark = pool.stackMark();
            int left = set;
            for (int i = 0; i < fieldCount; i++) {
                int open = left & ~field[COME][i];
                int part = bestItem(i, open, i + 1, sum[i][left], 1, 16);
                if (part == NONE) {
                    left &= ~field[GONE][i];
                } else {
                    pool.push(field[NAME][i], cell[i][part]);
                    left = open & ~part;
                }
            }
            return pool.close(RECORD, 0, mark);
        }
    }

    /** Forms: rows of bits by shapes. */
    private static final class Forms {
        private static final int TEXT_BITS = 4, LETTER_BITS = 5, LETTERS = 26;

        private final Pool pool;
        private final Schemas schemas;
        private Buf bytes = new Buf(0);
        private int version;
        private int at;
        private int bits;
        private int made;
        private boolean bad;

        Forms(Pool values, Schemas shapes) {
            pool = values;
            schemas = shapes;
        }

        /** The form of a value of the root comes into bytes; returns how many bits it has. */
        int formOf(int v, int by, Buf to) {
            bytes = to;
            version = by;
            at = 0;
            putShape(v, schemas.shapeAt(by, 0), 0);
            return at;
        }

        private void putBits(int number, int width) {
            for (int i = width - 1; i >= 0; i--) {
                bytes.addBit(at, number >> i & 1);
                at++;
            }
        }

        private void putLetters(long letters) {
            int many = lettersIn(letters);
            putBits(many, TEXT_BITS);
            for (int i = 0; i < many; i++) {
                putBits(letterAt(letters, i, many) - 1, LETTER_BITS);
            }
        }

        private void putShape(int v, int shape, int depth) {
            int first = Schemas.firstOf(shape);
            int parts = Schemas.endOf(shape) - first;
            for (int i = 0; i < parts && depth <= 2 * MOST_LEVELS; i++) {
                if (schemas.holds(v, Schemas.alone(first + i), version)) {
                    putBits(i, bitsFor(parts - 1));
                    putPart(v, first + i, depth);
                    return;
                }
            }
        }

        private void putPart(int v, int p, int depth) {
            switch (schemas.kindOf(p)) {
                case NUMBER:
                    putBits((int) pool.codeOf(v) - schemas.lowOf(p), bitsFor(schemas.highOf(p) - schemas.lowOf(p)));
                    break;
                case TEXT:
                    putLetters(pool.codeOf(v));
                    break;
                case RECORD:
                    for (int f = schemas.firstField(p); f < schemas.endField(p); f++) {
                        int part = pool.field(v, schemas.nameOfField(f));
                        putBits(part == NONE ? 0 : 1, schemas.mayMiss(f) ? 1 : 0);
                        if (part != NONE) {
                            putShape(part, schemas.shapeOfField(f), depth + 1);
                        }
                    }
                    break;
                case TAGGED:
                    putShape(pool.childOf(v, 0), schemas.innerOf(p), depth + 1);
                    break;
                case REF:
                    putShape(v, schemas.shapeAt(version, schemas.lowOf(p)), depth + 1);
                    break;
                default:
                    putRow(v, p, depth);
                    break;
            }
        }

        private void putRow(int v, int p, int depth) {
            putBits(pool.sizeOf(v) - schemas.lowOf(p), bitsFor(schemas.highOf(p) - schemas.lowOf(p)));
            for (int i = 0; i < pool.sizeOf(v); i++) {
                if (schemas.kindOf(p) == MAP) {
                    putLetters(pool.labelOf(v, i));
                }
                putShape(pool.childOf(v, i), schemas.innerOf(p), depth + 1);
            }
        }

        /** The value of which the first bits are the form; NONE if there is none that could be in a slot. */
        int valueOf(Buf from, int count, int by) {
            if (count > from.size() * 8) {
                return NONE;
            }
            bytes = from;
            version = by;
            at = 0;
            bits = count;
            made = 0;
            bad = false;
            int v = takeShape(schemas.shapeAt(by, 0), 0, 0);
            return bad || at != bits || pool.nodesOf(v) > MOST_NODES || pool.aroundIn(v) > MOST_AROUND ? NONE : v;
        }

        private int takeBits(int width) {
            int number = 0;
            if (at + width > bits) {
                bad = true;
                return 0;
            }
            for (int i = 0; i < width; i++) {
                number = number * 2 + (bytes.at(at / 8) >> 7 - at % 8 & 1);
                at++;
            }
            return number;
        }

        private long takeLetters() {
            int many = takeBits(TEXT_BITS);
            long letters = 0;
            bad = bad || many > 8;
            for (int i = 0; i < many && !bad; i++) {
                int letter = takeBits(LETTER_BITS);
                bad = bad || letter >= LETTERS;
                letters = letters * 27 + letter + 1;
            }
            return letters;
        }

        /** The depth counts the values around, the links the definitions that were gone through since. */
        private int takeShape(int shape, int depth, int links) {
            int first = Schemas.firstOf(shape);
            int parts = Schemas.endOf(shape) - first;
            bad = bad || depth > MOST_AROUND || links > MOST_DEFINITIONS || made > MOST_NODES;
            int place = bad ? 0 : takeBits(bitsFor(parts - 1));
            bad = bad || place >= parts;
            if (bad) {
                return NONE;
            }
            int v = takePart(first + place, depth, links);
            for (int i = 0; i < place && !bad; i++) {
                bad = schemas.holds(v, Schemas.alone(first + i), version);
            }
            return bad ? NONE : v;
        }

        private int takePart(int p, int depth, int links) {
            int kind = schemas.kindOf(p);
            if (kind == REF) {
                return takeShape(schemas.shapeAt(version, schemas.lowOf(p)), depth, links + 1);
            }
            made++;
            int mark = pool.stackMark();
            switch (kind) {
                case NUMBER:
                    return pool.number(takeUpTo(p));
                case TEXT:
                    int v = pool.text(takeLetters());
                    bad = bad || !schemas.holds(v, Schemas.alone(p), version);
                    return v;
                case RECORD:
                    return takeRecord(p, depth);
                case TAGGED:
                    pool.push(0, takeShape(schemas.innerOf(p), depth + 1, 0));
                    return pool.close(TAGGED, schemas.lowOf(p), mark);
                case LIST:
                case MAP:
                    return takeRow(p, depth);
                default:
                    bad = true;
                    return NONE;
            }
        }

        /** A number from the first INT of a part on, not above the second one. */
        private int takeUpTo(int p) {
            int number = takeBits(bitsFor(schemas.highOf(p) - schemas.lowOf(p))) + schemas.lowOf(p);
            bad = bad || number > schemas.highOf(p);
            return number;
        }

        private int takeRecord(int p, int depth) {
            int mark = pool.stackMark();
            for (int f = schemas.firstField(p); f < schemas.endField(p) && !bad; f++) {
                if (!schemas.mayMiss(f) || takeBits(1) == 1) {
                    pool.push(schemas.nameOfField(f), takeShape(schemas.shapeOfField(f), depth + 1, 0));
                }
            }
            return pool.close(RECORD, 0, mark);
        }

        private int takeRow(int p, int depth) {
            int mark = pool.stackMark();
            int kind = schemas.kindOf(p);
            int size = takeUpTo(p);
            long before = NONE;
            for (int i = 0; i < size && !bad; i++) {
                long label = kind == MAP ? takeLetters() : 0;
                bad = bad || kind == MAP && label <= before;
                before = label;
                pool.push(label, takeShape(schemas.innerOf(p), depth + 1, 0));
            }
            return pool.close(kind, 0, mark);
        }
    }

    /** Changes: what comes of a schema by one, what of a value, and the ways between versions. */
    private static final class Changes {
        private final Pool pool;
        private final Schemas schemas;
        private final Reader reader;
        private final Solver solver;
        private final Version[] versions = new Version[VERSIONS + 1];
        private final Version none = new Version();
        private final Buf work = new Buf(4096);
        private final int[] upWay = new int[VERSIONS + 1];
        private final int[] downWay = new int[VERSIONS + 1];
        private final boolean[] known = new boolean[DEFAULTS];
        /** Of the change that values go over: its version, the versions ahead of and behind it, and its records there. */
        private Version change;
        private int older;
        private int newer;
        private int oldRecord;
        private int newRecord;
        private boolean ahead;
        /** Where the sum that is reckoned is being read, and the record whose fields it names. */
        private int at;
        private int named;

        Changes(Pool values, Schemas shapes, Reader texts, Solver solving) {
            pool = values;
            schemas = shapes;
            reader = texts;
            solver = solving;
            change = none;
            for (int i = 0; i < versions.length; i++) {
                versions[i] = new Version();
            }
        }

        /** A row of bytes for texts that are wanted only within a call. */
        Buf workText() {
            return work;
        }

        Version version(int v) {
            Version found = v >= 0 && v < versions.length ? versions[v] : none;
            return found == null ? none : found;
        }

        // -- ways

        private boolean comesOf(int v, int from) {
            int at = v;
            for (int i = 0; i <= VERSIONS && at != NONE; i++) {
                if (at == from) {
                    return true;
                }
                at = version(at).parent;
            }
            return false;
        }

        /** The nearest version that both come from, or are; NONE if there is none. */
        int meeting(int v, int w) {
            int at = v;
            for (int i = 0; i <= VERSIONS && at != NONE; i++) {
                if (comesOf(w, at)) {
                    return at;
                }
                at = version(at).parent;
            }
            return NONE;
        }

        /** The versions from behind one down to one that comes of it; returns how many there are. */
        int wayDown(int from, int to, int[] into) {
            int count = 0;
            int at = to;
            for (int i = 0; i <= VERSIONS && at != from && at != NONE; i++) {
                count++;
                at = version(at).parent;
            }
            at = to;
            for (int i = count - 1; i >= 0 && i < into.length; i--) {
                into[i] = at;
                at = version(at).parent;
            }
            return count;
        }

        // -- merging

        /** Whether a change is the same as one on a way. */
        boolean isAmong(int v, int[] way, int count) {
            Version one = version(v);
            for (int i = 0; i < count && i < way.length; i++) {
                Version other = version(way[i]);
                boolean alike = one.kind == other.kind && one.definition == other.definition && one.factor == other.factor;
                if (alike && one.text.sameAs(other.text)) {
                    return true;
                }
            }
            return false;
        }

        /** Whether a change is in conflict with those on a way. */
        boolean clashes(int v, int[] way, int count) {
            boolean clash = false;
            Version one = version(v);
            for (int i = 0; i < count && i < way.length && !isAmong(v, way, count); i++) {
                Version other = version(way[i]);
                for (int k = 0; k < one.names() && one.definition == other.definition; k++) {
                    clash = clash || other.tells(one.nameAt(k));
                }
            }
            return clash;
        }

        /** The change of a version, to be read and made once more, of another parent. */
        Version retold(int v, int newParent, int begun) {
            Version one = version(v);
            Version again = version(begun);
            again.come(newParent, one.kind, one.definition, one.factor, one.text);
            return again;
        }

        // -- changing a schema

        /** Builds the schema of a version by its change, which was read; tells whether it is not refused. */
        boolean make(int begun) {
            Version made = version(begun);
            int record = recordIn(made.parent, made.definition);
            if (record == NONE || made.toldCount > MOST_FIELDS || !isAllowed(made, record)) {
                return false;
            }
            tellChanged(made, record);
            reader.readSchema(work, begun);
            boolean stands = reader.faultOf() == NONE;
            int newRecord = stands ? recordIn(begun, made.definition) : NONE;
            for (int i = 0; i < defaultsOf(made) && stands; i++) {
                int by = made.kind == DROP || made.kind == RELAX ? made.parent : begun;
                int named = made.kind == DROP || made.kind == RELAX ? record : newRecord;
                int shape = schemas.shapeNamed(named, made.nameAt(i));
                solver.askLeast(shape, by);
                stands = takeDefault(made, begun, i, solver.solve(1), shape, by) && namesFields(made, i, named);
            }
            if (stands && made.kind == RETYPE) {
                solver.askLeast(schemas.shapeNamed(record, made.nameAt(0)), made.parent);
                made.oldLeast = pool.keep(DEFAULT_REGION + begun * DEFAULTS + DEFAULTS - 1, solver.solve(1));
                stands = made.oldLeast != NONE;
            }
            return stands && (made.kind != ADD || !isRing(made));
        }

        /** How many fields of a change need a default, or the least value of their shape. */
        private static int defaultsOf(Version made) {
            boolean one = made.kind == DROP || made.kind == RETYPE || made.kind == RELAX || made.kind == REQUIRE;
            return made.kind == ADD ? made.names() : one ? 1 : 0;
        }

        /** The { } that is the shape of a definition; NONE if that is not one alone. */
        private int recordIn(int v, int definition) {
            return schemas.onlyPart(schemas.shapeAt(v, definition), RECORD);
        }

        private boolean isAllowed(Version made, int record) {
            int f = schemas.fieldNamed(record, made.nameAt(0));
            int g = schemas.fieldNamed(record, made.nameAt(1));
            switch (made.kind) {
                case ADD:
                    return true;
                case SPLIT:
                    return isCounter(f);
                case JOIN:
                    return f != g && isCounter(f) && isCounter(g) && joins(made.factor, numbersOf(f), numbersOf(g));
                case MOVE:
                    return f != NONE && f != g && recordInside(g) != NONE;
                case LIFT:
                    return schemas.fieldNamed(recordInside(f), made.nameAt(1)) != NONE;
                case UNWRAP:
                    made.tag = schemas.lowOf(schemas.onlyPart(schemas.shapeOfField(f), TAGGED));
                    return f != NONE && made.tag != 0;
                case RELAX:
                    return f != NONE && !schemas.mayMiss(f);
                case REQUIRE:
                    return schemas.mayMiss(f);
                default:
                    return f != NONE;
            }
        }

        private int numbersOf(int f) {
            return schemas.onlyPart(schemas.shapeOfField(f), NUMBER);
        }

        /** Whether a field is there always, and is one num alone from 0 on. */
        private boolean isCounter(int f) {
            return f != NONE && !schemas.mayMiss(f) && numbersOf(f) != NONE && schemas.lowOf(numbersOf(f)) >= 0;
        }

        private boolean joins(int factor, int p, int q) {
            return schemas.highOf(q) < factor && schemas.highOf(p) * factor + schemas.highOf(q) <= MOST_NUMBER;
        }

        /** The { } that is the shape of a field which is there always; NONE if that is not one alone. */
        private int recordInside(int f) {
            return f == NONE || schemas.mayMiss(f) ? NONE : schemas.onlyPart(schemas.shapeOfField(f), RECORD);
        }

        /** The text of the new schema comes into the work row. */
        private void tellChanged(Version made, int record) {
            work.wipe();
            for (int d = 0; d < schemas.definitions(made.parent); d++) {
                schemas.tellDefinitionName(made.parent, d, work);
                if (d == made.definition) {
                    work.add('{');
                    for (int f = schemas.firstField(record); f < schemas.endField(record); f++) {
                        tellChangedField(made, record, f);
                    }
                    tellNewFields(made, record);
                    work.add('}');
                } else {
                    schemas.tellShape(schemas.shapeAt(made.parent, d), work, 0);
                }
                work.add(';');
            }
        }

        private void tellChangedField(Version made, int record, int f) {
            boolean first = made.kind != ADD && schemas.nameOfField(f) == made.nameAt(0);
            boolean second = schemas.nameOfField(f) == made.nameAt(1);
            boolean goes = made.kind == DROP || made.kind == SPLIT || made.kind == JOIN || made.kind == MOVE;
            if (first && goes || second && made.kind == JOIN) {
                return;
            }
            work.addComma('{');
            boolean changes = first || second && made.kind == MOVE;
            switch (changes ? made.kind : NONE) {
                case RENAME:
                    Schemas.tellFieldName(made.nameAt(1), schemas.mayMiss(f), work);
                    schemas.tellShape(schemas.shapeOfField(f), work, 0);
                    break;
                case MOVE:
                    Schemas.tellFieldName(schemas.nameOfField(f), false, work);
                    tellInside(recordInside(f), NONE, schemas.fieldNamed(record, made.nameAt(0)));
                    break;
                case LIFT:
                    Schemas.tellFieldName(schemas.nameOfField(f), false, work);
                    tellInside(recordInside(f), schemas.fieldNamed(recordInside(f), made.nameAt(1)), NONE);
                    break;
                case RETYPE:
                    made.tellField(0, schemas.mayMiss(f), work);
                    break;
                case WRAP:
                    Schemas.tellFieldName(schemas.nameOfField(f), schemas.mayMiss(f), work);
                    work.addLetters(made.tag, true);
                    work.add('(');
                    schemas.tellShape(schemas.shapeOfField(f), work, 0);
                    work.add(')');
                    break;
                case UNWRAP:
                    Schemas.tellFieldName(schemas.nameOfField(f), schemas.mayMiss(f), work);
                    schemas.tellShape(schemas.innerOf(schemas.onlyPart(schemas.shapeOfField(f), TAGGED)), work, 0);
                    break;
                case RELAX:
                case REQUIRE:
                    Schemas.tellFieldName(schemas.nameOfField(f), made.kind == RELAX, work);
                    schemas.tellShape(schemas.shapeOfField(f), work, 0);
                    break;
                default:
                    schemas.tellField(f, work, 0);
                    break;
            }
        }

        /** A { } without one field and with another one. */
        private void tellInside(int record, int without, int with) {
            work.add('{');
            for (int f = schemas.firstField(record); f < schemas.endField(record); f++) {
                if (f != without) {
                    work.addComma('{');
                    schemas.tellField(f, work, 0);
                }
            }
            if (with != NONE) {
                work.addComma('{');
                schemas.tellField(with, work, 0);
            }
            work.add('}');
        }

        private void tellNewFields(Version made, int record) {
            int f = schemas.fieldNamed(record, made.nameAt(0));
            int p = numbersOf(f);
            int n = Math.max(made.factor, 1);
            switch (made.kind) {
                case ADD:
                    for (int i = 0; i < made.names(); i++) {
                        work.addComma('{');
                        made.tellField(i, made.may[i], work);
                    }
                    break;
                case SPLIT:
                    tellNumbers(made.nameAt(1), schemas.lowOf(p) / n, schemas.highOf(p) / n);
                    tellNumbers(made.nameAt(2), 0, n - 1);
                    break;
                case JOIN:
                    int q = numbersOf(schemas.fieldNamed(record, made.nameAt(1)));
                    tellNumbers(made.nameAt(2), schemas.lowOf(p) * n + schemas.lowOf(q), schemas.highOf(p) * n + schemas.highOf(q));
                    break;
                case LIFT:
                    work.addComma('{');
                    schemas.tellField(schemas.fieldNamed(recordInside(f), made.nameAt(1)), work, 0);
                    break;
                default:
                    break;
            }
        }

        private void tellNumbers(int name, int low, int high) {
            work.addComma('{');
            Schemas.tellFieldName(name, false, work);
            Schemas.tellNum(low, high, work);
        }

        // -- defaults

        /** Keeps the value that a default needs: what was told, or the least one of the shape; false if the change is refused. */
        private boolean takeDefault(Version made, int begun, int i, int least, int shape, int by) {
            int given = made.valueAt(i);
            boolean fits = given != NONE && schemas.holds(given, shape, by);
            if (least == NONE || given != NONE && !fits && made.kind != ADD) {
                return false;
            }
            made.setValue(i, pool.keep(DEFAULT_REGION + begun * DEFAULTS + i, fits ? given : least));
            return true;
        }

        /** The next name in a text ahead of an end, from where it is being read; 0 if there is none. */
        private int nextNamed(Buf text, int end) {
            int name = 0;
            boolean more = at >= 0;
            for (int i = 0; i < TAPE_ROOM && more && at < end && at < text.bytes.length; i++) {
                boolean letter = text.bytes[at] >= 'a' && text.bytes[at] <= 'z';
                name = letter ? name * 27 + text.bytes[at] - 'a' + 1 : name;
                more = letter || name == 0;
                at++;
            }
            return name;
        }

        /** Whether the sum of a default, if it is one, names only other fields of a { }. */
        private boolean namesFields(Version made, int i, int record) {
            at = made.sumStart(i);
            int name = nextNamed(made.text, made.sumEnd(i));
            for (int k = 0; k < TAPE_ROOM && name != 0; k++) {
                if (name == made.nameAt(i) || schemas.fieldNamed(record, name) == NONE) {
                    return false;
                }
                name = nextNamed(made.text, made.sumEnd(i));
            }
            return true;
        }

        /** Whether the sum of a default, if it is one, names a field. */
        private boolean hangsOn(Version made, int i, int wanted) {
            at = made.sumStart(i);
            int name = nextNamed(made.text, made.sumEnd(i));
            for (int k = 0; k < TAPE_ROOM && name != 0 && name != wanted; k++) {
                name = nextNamed(made.text, made.sumEnd(i));
            }
            return name != 0 && name == wanted;
        }

        /** Of the fields of ADD that are still to be found, the first one by name that hangs on none of them; NONE if all do. */
        private int nextToFind(Version made) {
            int best = NONE;
            for (int i = 0; i < made.names() && i < known.length; i++) {
                boolean free = !known[i];
                for (int k = 0; k < made.names() && k < known.length && free; k++) {
                    free = known[k] || !hangsOn(made, i, made.nameAt(k));
                }
                if (free && (best == NONE || made.nameAt(i) < made.nameAt(best))) {
                    best = i;
                }
            }
            return best;
        }

        private void forgetAll() {
            for (int i = 0; i < known.length; i++) {
                known[i] = false;
            }
        }

        private boolean isRing(Version made) {
            forgetAll();
            for (int i = 0; i < made.names(); i++) {
                int next = nextToFind(made);
                if (next < 0 || next >= known.length) {
                    return true;
                }
                known[next] = true;
            }
            return false;
        }

        /** The default of a change for a record: its value, or its sum, if that is of the shape. */
        private int defaultFor(int i, int record, int shape, int by) {
            if (change.sumStart(i) == NONE) {
                return change.valueAt(i);
            }
            at = change.sumStart(i);
            named = record;
            long sum = Math.max(-MOST_NUMBER, Math.min(MOST_NUMBER, sumAt(0)));
            return schemas.hasNumber(shape, by, sum) ? pool.number((int) sum) : change.valueAt(i);
        }

        private int sign() {
            Buf text = change.text;
            return at >= 0 && at < text.count && at < text.bytes.length ? text.bytes[at] & 255 : NONE;
        }

        private long sumAt(int depth) {
            long sum = 0;
            long times = 1;
            for (int i = 0; i <= TAPE_ROOM && times != 0; i++) {
                sum += times * productAt(depth);
                times = sign() == '+' ? 1 : sign() == '-' ? -1 : 0;
                at += times == 0 ? 0 : 1;
            }
            return sum;
        }

        private long productAt(int depth) {
            long product = factorAt(depth);
            for (int i = 0; i <= TAPE_ROOM && sign() == '*'; i++) {
                at++;
                product *= factorAt(depth);
            }
            return product;
        }

        private long factorAt(int depth) {
            if (sign() == '(' && depth <= MOST_BRACKETS) {
                at++;
                long sum = sumAt(depth + 1);
                at++;
                return sum;
            }
            long times = sign() == '-' ? -1 : 1;
            at += times < 0 ? 1 : 0;
            long number = 0;
            int name = 0;
            for (int i = 0; i < 4 && sign() >= '0' && sign() <= '9'; i++) {
                number = number * 10 + sign() - '0';
                at++;
            }
            for (int i = 0; i < 4 && sign() >= 'a' && sign() <= 'z'; i++) {
                name = name * 27 + sign() - 'a' + 1;
                at++;
            }
            int v = name == 0 ? NONE : pool.field(named, name);
            return name == 0 ? times * number : pool.kindOf(v) == NUMBER ? pool.codeOf(v) : 0;
        }

        // -- converting values

        /** The value as it is converted from a version to another one; NONE if it cannot be. */
        int carry(int v, int from, int to) {
            int top = meeting(from, to);
            if (top == NONE || !schemas.holds(v, schemas.shapeAt(from, 0), from)) {
                return NONE;
            }
            int up = wayDown(top, from, upWay);
            int down = wayDown(top, to, downWay);
            int carried = v;
            for (int i = 0; i < up + down && carried != NONE; i++) {
                ahead = i >= up;
                int begun = ahead ? step(downWay, i - up) : step(upWay, up - 1 - i);
                change = version(begun);
                newer = begun;
                older = change.parent;
                oldRecord = recordIn(older, change.definition);
                newRecord = recordIn(newer, change.definition);
                carried = pass(carried, schemas.shapeAt(ahead ? older : newer, 0), 0);
                boolean fits = pool.nodesOf(carried) <= MOST_NODES && pool.aroundIn(carried) <= MOST_AROUND;
                carried = fits ? carried : NONE;
            }
            return carried;
        }

        private static int step(int[] way, int i) {
            return i >= 0 && i < way.length ? way[i] : NONE;
        }

        /** A value as it is over the change, by a shape; NONE if there is no room for it. */
        private int pass(int v, int shape, int depth) {
            int p = schemas.partFor(v, shape, ahead ? older : newer, 0);
            if (p == NONE || depth > MOST_AROUND) {
                return NONE;
            }
            int kind = pool.kindOf(v);
            if (kind == NUMBER || kind == TEXT) {
                return v;
            }
            int mark = pool.stackMark();
            for (int i = 0; i < pool.sizeOf(v); i++) {
                int inner = kind == RECORD ? schemas.shapeNamed(p, pool.labelOf(v, i)) : schemas.innerOf(p);
                pool.push(pool.labelOf(v, i), pass(pool.childOf(v, i), inner, depth + 1));
            }
            int passed = pool.close(kind, pool.codeOf(v), mark);
            if (p != (ahead ? oldRecord : newRecord) || passed == NONE) {
                return passed;
            }
            return ahead ? forward(passed) : backward(passed);
        }

        /** A record without a field, and with its value by another name, if it is there. */
        private int renamed(int record, int from, int to) {
            int v = pool.field(record, from);
            return v == NONE ? record : pool.with(pool.without(record, from), to, v);
        }

        /** A record with another value of a field. */
        private int replaced(int record, int name, int v) {
            return pool.with(pool.without(record, name), name, v);
        }

        private int forward(int record) {
            int f = change.nameAt(0);
            int v = pool.field(record, f);
            switch (change.kind) {
                case ADD:
                    return added(record);
                case DROP:
                    return pool.without(record, f);
                case RENAME:
                    return renamed(record, f, change.nameAt(1));
                case SPLIT:
                    return split(record, f, change.nameAt(1), change.nameAt(2));
                case JOIN:
                    return joined(record, f, change.nameAt(1), change.nameAt(2));
                case MOVE:
                    return moved(record, f, change.nameAt(1));
                case LIFT:
                    return lifted(record, f, change.nameAt(1));
                case RETYPE:
                    int shape = schemas.shapeNamed(newRecord, f);
                    boolean stays = v == NONE || schemas.holds(v, shape, newer);
                    return stays ? record : replaced(record, f, defaultFor(0, record, shape, newer));
                case WRAP:
                    return wrapped(record, f);
                case UNWRAP:
                    return v == NONE ? record : replaced(record, f, pool.childOf(v, 0));
                case REQUIRE:
                    return v != NONE ? record : pool.with(record, f, defaultFor(0, record, schemas.shapeNamed(newRecord, f), newer));
                default:
                    return record;
            }
        }

        private int backward(int record) {
            int f = change.nameAt(0);
            int v = pool.field(record, f);
            switch (change.kind) {
                case ADD:
                    int left = record;
                    for (int i = 0; i < change.names(); i++) {
                        left = pool.without(left, change.nameAt(i));
                    }
                    return left;
                case DROP:
                    return pool.with(record, f, defaultFor(0, record, schemas.shapeNamed(oldRecord, f), older));
                case RENAME:
                    return renamed(record, change.nameAt(1), f);
                case SPLIT:
                    return joined(record, change.nameAt(1), change.nameAt(2), f);
                case JOIN:
                    return split(record, change.nameAt(2), f, change.nameAt(1));
                case MOVE:
                    return lifted(record, change.nameAt(1), f);
                case LIFT:
                    return moved(record, change.nameAt(1), f);
                case RETYPE:
                    boolean stays = v == NONE || schemas.holds(v, schemas.shapeNamed(oldRecord, f), older);
                    return stays ? record : replaced(record, f, change.oldLeast);
                case WRAP:
                    return v == NONE ? record : replaced(record, f, pool.childOf(v, 0));
                case UNWRAP:
                    return wrapped(record, f);
                case RELAX:
                    return v != NONE ? record : pool.with(record, f, change.valueAt(0));
                default:
                    return record;
            }
        }

        private int added(int record) {
            forgetAll();
            int with = record;
            for (int i = 0; i < change.names(); i++) {
                int next = nextToFind(change);
                if (next >= 0 && next < known.length) {
                    known[next] = true;
                    int name = change.nameAt(next);
                    with = pool.with(with, name, defaultFor(next, with, schemas.shapeNamed(newRecord, name), newer));
                }
            }
            return with;
        }

        /** The number brought to the nearest one of the shape that a field has where the value comes to. */
        private int nearest(long number, int name) {
            int p = schemas.onlyPart(schemas.shapeNamed(ahead ? newRecord : oldRecord, name), NUMBER);
            return pool.number((int) Math.max(schemas.lowOf(p), Math.min(schemas.highOf(p), number)));
        }

        private int split(int record, int f, int g, int h) {
            long number = pool.codeOf(pool.field(record, f));
            int n = Math.max(change.factor, 1);
            int rest = pool.without(record, f);
            return pool.with(pool.with(rest, g, nearest(number / n, g)), h, nearest(number % n, h));
        }

        private int joined(int record, int g, int h, int f) {
            long number = pool.codeOf(pool.field(record, g)) * change.factor + pool.codeOf(pool.field(record, h));
            return pool.with(pool.without(pool.without(record, g), h), f, nearest(number, f));
        }

        private int moved(int record, int f, int r) {
            int v = pool.field(record, f);
            return v == NONE ? record : replaced(pool.without(record, f), r, pool.with(pool.field(record, r), f, v));
        }

        private int lifted(int record, int r, int f) {
            int inside = pool.field(record, r);
            int v = pool.field(inside, f);
            return v == NONE ? record : pool.with(replaced(record, r, pool.without(inside, f)), f, v);
        }

        private int wrapped(int record, int f) {
            int v = pool.field(record, f);
            if (v == NONE) {
                return record;
            }
            int mark = pool.stackMark();
            pool.push(0, v);
            return replaced(record, f, pool.close(TAGGED, change.tag, mark));
        }

        // -- losses

        /** Whether a change may lose, forward or backward. */
        boolean loses(int begun, boolean isAhead) {
            Version made = version(begun);
            int record = recordIn(made.parent, made.definition);
            int p = numbersOf(schemas.fieldNamed(record, made.nameAt(0)));
            int q = numbersOf(schemas.fieldNamed(record, made.nameAt(1)));
            int n = Math.max(made.factor, 1);
            switch (made.kind) {
                case DROP:
                case REQUIRE:
                    return isAhead;
                case ADD:
                case RELAX:
                    return !isAhead;
                case SPLIT:
                    return !isAhead && (schemas.lowOf(p) % n != 0 || schemas.highOf(p) % n != n - 1);
                case JOIN:
                    return !isAhead && schemas.lowOf(p) < schemas.highOf(p) && (schemas.lowOf(q) > 0 || schemas.highOf(q) < n - 1);
                case RETYPE:
                    pool.free();
                    int old = schemas.shapeNamed(record, made.nameAt(0));
                    int fresh = schemas.shapeNamed(recordIn(begun, made.definition), made.nameAt(0));
                    int by = isAhead ? begun : made.parent;
                    solver.askApart(isAhead ? old : fresh, by, isAhead ? fresh : old, by);
                    return solver.solve(1) != NONE;
                default:
                    return false;
            }
        }
    }

    /** Paths: what they find in values, to which shapes they lead, and what becomes of them over changes. */
    private static final class Paths {
        private static final int THREADS = 64, LONGEST = 2 * MOST_STEPS;

        private final Pool pool;
        private final Schemas schemas;
        private final int[] kind = new int[LONGEST];
        private final int[] name = new int[LONGEST];
        private final int[] newKind = new int[LONGEST];
        private final int[] newName = new int[LONGEST];
        /** The shapes to which the steps came so far, and the parts to which these lead. */
        private final int[] shape = new int[THREADS];
        private final int[] part = new int[THREADS * MOST_LED];
        private final int[] value = new int[MOST_NODES];
        private final int[] nextValue = new int[MOST_NODES];
        private final int[] told = new int[2 * (THREADS * MOST_LED + 1)];
        private int length;
        private int newLength;
        private int shapeCount;
        private int partCount;
        private int valueCount;
        /** How many steps of the old path the step in hand uses up. */
        private int used;

        Paths(Pool values, Schemas shapes) {
            pool = values;
            schemas = shapes;
        }

        /** Takes the path that was read; tells whether it can be gone in a version. */
        boolean take(Reader reader, int version) {
            length = 0;
            for (int i = 0; i < reader.stepCount() && i < LONGEST; i++) {
                kind[i] = reader.stepKindAt(i);
                name[i] = reader.stepNameAt(i);
                length++;
            }
            return goAll(version);
        }

        // -- going through shapes

        private boolean goAll(int version) {
            start(version);
            for (int i = 0; i < length && i < LONGEST; i++) {
                go(version, kind[i], name[i]);
            }
            return shapeCount > 0;
        }

        private void start(int version) {
            shape[0] = schemas.shapeAt(version, 0);
            shapeCount = 1;
            lead(version);
        }

        private void lead(int version) {
            partCount = 0;
            for (int i = 0; i < shapeCount && i < THREADS; i++) {
                partCount = schemas.leads(shape[i], version, part, partCount);
            }
        }

        private int partAt(int i) {
            return i >= 0 && i < partCount && i < part.length ? part[i] : NONE;
        }

        private void go(int version, int stepKind, int stepName) {
            shapeCount = 0;
            for (int i = 0; i < partCount; i++) {
                int p = partAt(i);
                int f = stepKind == FIELD_STEP ? schemas.fieldNamed(p, stepName) : NONE;
                if (f != NONE) {
                    addShape(schemas.shapeOfField(f));
                } else if (isInto(schemas.kindOf(p), schemas.lowOf(p), stepKind, stepName)) {
                    addShape(schemas.innerOf(p));
                }
            }
            lead(version);
        }

        /** Whether a step that names no field goes into what has a kind and, if it is tagged, a tag. */
        private static boolean isInto(int thingKind, long tag, int stepKind, int stepName) {
            switch (stepKind) {
                case ITEM_STEP:
                    return thingKind == LIST;
                case ENTRY_STEP:
                    return thingKind == MAP;
                case TAG_STEP:
                    return thingKind == TAGGED && tag == stepName;
                default:
                    return false;
            }
        }

        private void addShape(int code) {
            if (shapeCount >= 0 && shapeCount < THREADS) {
                shape[shapeCount] = code;
                shapeCount++;
            }
        }

        /** The parts of the shapes to which the path comes, each text once; the work row is used for them all. */
        void tellShape(int version, Buf work, Buf to) {
            work.wipe();
            int count = 0;
            for (int i = 0; i < shapeCount && i < THREADS; i++) {
                for (int p = Schemas.firstOf(shape[i]); p < Schemas.endOf(shape[i]) && 2 * count + 1 < told.length; p++) {
                    int from = work.size();
                    schemas.tellShape(Schemas.alone(p), work, 0);
                    if (isTold(work, count, from)) {
                        work.cut(from);
                    } else {
                        told[2 * count] = from;
                        told[2 * count + 1] = work.size();
                        count++;
                    }
                }
            }
            for (int i = 0; i < count && 2 * i + 1 < told.length; i++) {
                if (i > 0) {
                    to.add('|');
                }
                to.addPart(work, told[2 * i], told[2 * i + 1]);
            }
        }

        private boolean isTold(Buf work, int count, int from) {
            for (int i = 0; i < count && 2 * i + 1 < told.length; i++) {
                if (work.repeats(told[2 * i], told[2 * i + 1], from, work.size())) {
                    return true;
                }
            }
            return false;
        }

        // -- finding values

        /** How many results the path has in a value, which must last until the next query. */
        int find(int v) {
            valueCount = 1;
            value[0] = v;
            for (int i = 0; i < length && i < LONGEST; i++) {
                int count = 0;
                for (int k = 0; k < valueCount && k < value.length; k++) {
                    count = goInto(value[k], kind[i], name[i], count);
                }
                System.arraycopy(nextValue, 0, value, 0, value.length);
                valueCount = count;
            }
            return valueCount;
        }

        private int goInto(int v, int stepKind, int stepName, int count) {
            int found = count;
            boolean all = isInto(pool.kindOf(v), pool.codeOf(v), stepKind, stepName);
            boolean one = stepKind == FIELD_STEP && pool.kindOf(v) == RECORD;
            for (int i = 0; i < pool.sizeOf(v); i++) {
                boolean goes = all || one && pool.labelOf(v, i) == stepName;
                if (goes && found >= 0 && found < nextValue.length) {
                    nextValue[found] = pool.childOf(v, i);
                    found++;
                }
            }
            return found;
        }

        int found() {
            return valueCount;
        }

        int foundAt(int i) {
            return i >= 0 && i < value.length ? value[i] : NONE;
        }

        // -- rewriting

        /** Rewrites the path over the change by which a version came; tells whether that can be done. */
        boolean rewriteOver(Version change, int begun, boolean ahead) {
            int version = ahead ? change.parent : begun;
            int record = schemas.onlyPart(schemas.shapeAt(version, change.definition), RECORD);
            start(version);
            newLength = 0;
            int i = 0;
            for (int round = 0; round < LONGEST && i < length && i < LONGEST; round++) {
                used = 1;
                if (!rewriteStep(change, ahead, record, i)) {
                    return false;
                }
                for (int k = 0; k < used && i < length && i < LONGEST; k++) {
                    go(version, kind[i], name[i]);
                    i++;
                }
            }
            length = newLength;
            System.arraycopy(newKind, 0, kind, 0, LONGEST);
            System.arraycopy(newName, 0, name, 0, LONGEST);
            return length <= MOST_STEPS;
        }

        private boolean rewriteStep(Version change, boolean ahead, int record, int i) {
            int oldName = i >= 0 && i < LONGEST ? name[i] : 0;
            int oldKind = i >= 0 && i < LONGEST ? kind[i] : NONE;
            if (oldKind != FIELD_STEP || !isAmongParts(record) || schemas.fieldNamed(record, oldName) == NONE) {
                addStep(oldKind, oldName);
                return true;
            }
            int before = newLength;
            boolean stands = ahead ? goAhead(change, oldName, i) : goBack(change, oldName, i);
            int first = before >= 0 && before < LONGEST ? newName[before] : 0;
            boolean same = newLength == before + 1 && first == oldName && used == 1;
            return stands && (same || !isElsewhere(record, oldName) && !isElsewhere(record, first));
        }

        private boolean isAmongParts(int record) {
            for (int i = 0; i < partCount; i++) {
                if (partAt(i) == record) {
                    return true;
                }
            }
            return false;
        }

        /** Whether another { } among the parts has a field with a name. */
        private boolean isElsewhere(int record, int wanted) {
            for (int i = 0; i < partCount; i++) {
                if (partAt(i) != record && schemas.fieldNamed(partAt(i), wanted) != NONE) {
                    return true;
                }
            }
            return false;
        }

        private void addStep(int stepKind, int stepName) {
            if (newLength >= 0 && newLength < LONGEST) {
                newKind[newLength] = stepKind;
                newName[newLength] = stepName;
                newLength++;
            }
        }

        private boolean isFollowedBy(int i, int stepKind, int stepName) {
            return i >= 0 && i + 1 < length && i + 1 < LONGEST && kind[i + 1] == stepKind && name[i + 1] == stepName;
        }

        private boolean goAhead(Version change, int step, int i) {
            int f = change.nameAt(0);
            int g = change.nameAt(1);
            switch (change.kind) {
                case RENAME:
                    return become(step == f ? g : step);
                case MOVE:
                    return enter(step == f, g, FIELD_STEP, step, step);
                case LIFT:
                    return leave(step == f, i, FIELD_STEP, g, g, step);
                case WRAP:
                    return enter(step == f, f, TAG_STEP, change.tag, step);
                case UNWRAP:
                    return leave(step == f, i, TAG_STEP, change.tag, f, step);
                case RETYPE:
                    return become(step) && (step != f || i == length - 1);
                case DROP:
                case SPLIT:
                case REQUIRE:
                    return become(step) && step != f;
                case JOIN:
                    return become(step) && step != f && step != g;
                default:
                    return become(step);
            }
        }

        private boolean goBack(Version change, int step, int i) {
            int f = change.nameAt(0);
            int g = change.nameAt(1);
            switch (change.kind) {
                case ADD:
                    return become(step) && !change.tells(step);
                case RENAME:
                    return become(step == g ? f : step);
                case MOVE:
                    return leave(step == g, i, FIELD_STEP, f, f, step);
                case LIFT:
                    return enter(step == g, f, FIELD_STEP, step, step);
                case WRAP:
                    return leave(step == f, i, TAG_STEP, change.tag, f, step);
                case UNWRAP:
                    return enter(step == f, f, TAG_STEP, change.tag, step);
                case RETYPE:
                    return become(step) && (step != f || i == length - 1);
                case SPLIT:
                    return become(step) && step != g && step != change.nameAt(2);
                case JOIN:
                    return become(step) && step != change.nameAt(2);
                case RELAX:
                    return become(step) && step != f;
                default:
                    return become(step);
            }
        }

        private boolean become(int stepName) {
            addStep(FIELD_STEP, stepName);
            return true;
        }

        /** The step becomes two, if the field is that of the change; otherwise it stays. */
        private boolean enter(boolean is, int first, int stepKind, int second, int step) {
            addStep(FIELD_STEP, is ? first : step);
            if (is) {
                addStep(stepKind, second);
            }
            return true;
        }

        /** The step and the next one become one, if they are those of the change; otherwise it stays. */
        private boolean leave(boolean is, int i, int stepKind, int second, int one, int step) {
            boolean both = is && isFollowedBy(i, stepKind, second);
            addStep(FIELD_STEP, both ? one : step);
            used = both ? 2 : 1;
            return true;
        }

        void tellPath(Buf to) {
            for (int i = 0; i < length && i < LONGEST; i++) {
                switch (kind[i]) {
                    case FIELD_STEP:
                        to.add('.');
                        to.addLetters(name[i], false);
                        break;
                    case ITEM_STEP:
                        to.addWord("[]");
                        break;
                    case ENTRY_STEP:
                        to.addWord("<>");
                        break;
                    default:
                        to.add('!');
                        to.addLetters(name[i], true);
                        break;
                }
            }
        }
    }

    /** Samples of shapes: what is inferred from them, the small ones, and how one is shrunk. */
    private static final class Samples {
        private static final int STACK = 1024, SINGLES = 8, PAIRS = 1024, BIG = 1000000;

        private final Pool pool;
        private final Schemas schemas;
        /** Values from which something is still being inferred. */
        private final int[] sample = new int[STACK];
        private int sampleTop;
        private int growth;
        private int partsTold;
        private Buf text = new Buf(0);
        /** The shape of which values are to be, and that of which they are not to be, if there is one. */
        private int shape;
        private int version;
        private int otherShape;
        private int otherVersion;
        /** How many such values were met, and which one is to be kept. */
        private int met;
        private int wanted;
        /** Whether the values that come are those that are aimed at, and not those of which they are built. */
        private boolean last;
        /** Small values with one node, and behind them those with two. */
        private final int[] small = new int[SINGLES + PAIRS];
        private int smalls;
        private final int[] led = new int[MOST_LED * MOST_LED];
        private int ledCount;
        /** For each node of the value that is shrunk: the one that it is in, and its place there. */
        private final int[] above = new int[MOST_NODES];
        private final int[] placeAbove = new int[MOST_NODES];

        Samples(Pool values, Schemas shapes) {
            pool = values;
            schemas = shapes;
        }

        // -- inferring

        void wipe() {
            sampleTop = 0;
        }

        void addSample(int v) {
            if (sampleTop >= 0 && sampleTop < STACK) {
                sample[sampleTop] = v;
                sampleTop++;
            }
        }

        private int sampleAt(int i) {
            return i >= 0 && i < sampleTop && i < STACK ? sample[i] : NONE;
        }

        /** Tells the schema that is inferred from all samples; false if it has too many parts. */
        boolean inferShape(int newGrowth, Buf to) {
            growth = newGrowth;
            text = to;
            text.wipe();
            partsTold = 0;
            text.addWord("V=");
            boolean told = inferAt(0, sampleTop, 0);
            text.add(';');
            return told;
        }

        private boolean inferAt(int from, int to, int depth) {
            int texts = textParts(from, to);
            boolean wide = countLabels(from, to, RECORD) > MOST_FIELDS;
            boolean maps = has(from, to, MAP) || wide;
            boolean narrow = has(from, to, RECORD) && !wide;
            int others = (has(from, to, NUMBER) ? 1 : 0) + (has(from, to, LIST) ? 1 : 0) + (narrow ? 1 : 0) + countLabels(from, to, TAGGED) + (maps ? 1 : 0);
            if (texts + others > MOST_LED) {
                texts = Math.min(texts, 1);
            }
            partsTold += Math.max(texts + others, 1);
            if (texts + others > MOST_LED || partsTold > MOST_PARTS || depth > MOST_LEVELS) {
                return false;
            }
            if (texts + others == 0) {
                text.addWord("none");
                return true;
            }
            int start = text.size();
            inferNumbers(from, to);
            inferTexts(from, to, texts, start);
            boolean told = inferLists(from, to, start, depth);
            told = told && (!narrow || inferRecords(from, to, start, depth));
            told = told && inferTagged(from, to, start, depth);
            return told && (!maps || inferMaps(from, to, start, depth, wide));
        }

        private void bar(int start) {
            if (text.size() > start) {
                text.add('|');
            }
        }

        private boolean has(int from, int to, int kind) {
            for (int i = from; i < to; i++) {
                if (pool.kindOf(sampleAt(i)) == kind) {
                    return true;
                }
            }
            return false;
        }

        /** The first letters of texts or tags, or name of fields, of the samples of a kind, behind one; NONE if there is none. */
        private long nextLabel(int from, int to, int kind, long behind) {
            long next = NONE;
            for (int i = from; i < to; i++) {
                int v = sampleAt(i);
                int size = pool.kindOf(v) != kind ? 0 : kind == RECORD ? pool.sizeOf(v) : 1;
                for (int k = 0; k < size; k++) {
                    long label = kind == RECORD ? pool.labelOf(v, k) : pool.codeOf(v);
                    next = label > behind && (next == NONE || label < next) ? label : next;
                }
            }
            return next;
        }

        /** How many labels there are, as far as it matters. */
        private int countLabels(int from, int to, int kind) {
            int count = 0;
            long label = nextLabel(from, to, kind, NONE);
            for (int i = 0; i <= MOST_FIELDS && label != NONE; i++) {
                count++;
                label = nextLabel(from, to, kind, label);
            }
            return count;
        }

        private int textParts(int from, int to) {
            int count = countLabels(from, to, TEXT);
            boolean alone = count > growth || nextLabel(from, to, TEXT, NONE) == 0;
            return alone ? 1 : count;
        }

        private void inferNumbers(int from, int to) {
            long least = BIG;
            long most = -BIG;
            for (int i = from; i < to; i++) {
                if (pool.kindOf(sampleAt(i)) == NUMBER) {
                    least = Math.min(least, pool.codeOf(sampleAt(i)));
                    most = Math.max(most, pool.codeOf(sampleAt(i)));
                }
            }
            if (least <= most) {
                Schemas.tellNum((int) least, (int) most, text);
            }
        }

        private void inferTexts(int from, int to, int parts, int start) {
            long letters = nextLabel(from, to, TEXT, NONE);
            for (int i = 0; i < parts && letters != NONE; i++) {
                bar(start);
                text.addWord("text");
                boolean alone = parts == 1 && (letters == 0 || nextLabel(from, to, TEXT, letters) != NONE);
                if (!alone) {
                    text.add('(');
                    text.addLetters(letters, false);
                    text.add(')');
                }
                letters = nextLabel(from, to, TEXT, letters);
            }
        }

        private boolean inferLists(int from, int to, int start, int depth) {
            int mark = sampleTop;
            int least = MOST_ITEMS;
            int most = NONE;
            for (int i = from; i < to; i++) {
                int v = sampleAt(i);
                if (pool.kindOf(v) == LIST) {
                    addChildren(v);
                    least = Math.min(least, pool.sizeOf(v));
                    most = Math.max(most, pool.sizeOf(v));
                }
            }
            if (most == NONE) {
                return true;
            }
            bar(start);
            text.add('[');
            boolean told = inferAt(mark, sampleTop, depth + 1);
            text.add(';');
            Schemas.tellInts(least, most, text);
            text.add(']');
            sampleTop = mark;
            return told;
        }

        private void addChildren(int v) {
            for (int k = 0; k < pool.sizeOf(v); k++) {
                addSample(pool.childOf(v, k));
            }
        }

        private boolean inferRecords(int from, int to, int start, int depth) {
            bar(start);
            text.add('{');
            boolean told = true;
            long field = nextLabel(from, to, RECORD, NONE);
            for (int i = 0; i < MOST_FIELDS && field != NONE && told; i++) {
                int mark = sampleTop;
                boolean may = false;
                for (int k = from; k < to; k++) {
                    int v = pool.kindOf(sampleAt(k)) == RECORD ? pool.field(sampleAt(k), field) : NONE;
                    may = may || pool.kindOf(sampleAt(k)) == RECORD && v == NONE;
                    if (v != NONE) {
                        addSample(v);
                    }
                }
                text.addComma('{');
                Schemas.tellFieldName((int) field, may, text);
                told = inferAt(mark, sampleTop, depth + 1);
                sampleTop = mark;
                field = nextLabel(from, to, RECORD, field);
            }
            text.add('}');
            return told;
        }

        private boolean inferTagged(int from, int to, int start, int depth) {
            boolean told = true;
            long label = nextLabel(from, to, TAGGED, NONE);
            for (int i = 0; i < MOST_LED && label != NONE && told; i++) {
                int mark = sampleTop;
                for (int k = from; k < to; k++) {
                    int v = sampleAt(k);
                    if (pool.kindOf(v) == TAGGED && pool.codeOf(v) == label) {
                        addSample(pool.childOf(v, 0));
                    }
                }
                bar(start);
                text.addLetters(label, true);
                text.add('(');
                told = inferAt(mark, sampleTop, depth + 1);
                text.add(')');
                sampleTop = mark;
                label = nextLabel(from, to, TAGGED, label);
            }
            return told;
        }

        private boolean inferMaps(int from, int to, int start, int depth, boolean records) {
            int mark = sampleTop;
            for (int i = from; i < to; i++) {
                int kind = pool.kindOf(sampleAt(i));
                if (kind == MAP || records && kind == RECORD) {
                    addChildren(sampleAt(i));
                }
            }
            bar(start);
            text.add('<');
            boolean told = inferAt(mark, sampleTop, depth + 1);
            text.add('>');
            sampleTop = mark;
            return told;
        }

        // -- values of one shape and not of another one

        void aim(int newShape, int newVersion, int newOtherShape, int newOtherVersion) {
            shape = newShape;
            version = newVersion;
            otherShape = newOtherShape;
            otherVersion = newOtherVersion;
        }

        boolean isAimed(int v) {
            boolean is = schemas.partFor(v, shape, version, 0) != NONE;
            return is && (otherShape == NONE || schemas.partFor(v, otherShape, otherVersion, 0) == NONE);
        }

        // -- small values

        /** How many small values with so many nodes are aimed at; the one at a place is kept, if there is one. */
        int countOf(int nodes, int place) {
            met = 0;
            wanted = place;
            smalls = 0;
            ledCount = schemas.leads(shape, version, led, 0);
            for (int n = 1; n <= nodes; n++) {
                last = n == nodes;
                pool.hold();
                if (n == 1) {
                    goThroughSingles();
                    continue;
                }
                if (isLookedAt(LIST)) {
                    goThroughLists(n);
                }
                goThroughRecords(n);
                goThroughTagged(n);
                if (isLookedAt(MAP)) {
                    goThroughMaps(n);
                }
            }
            return met;
        }

        /** How many parts there are that a value which comes could be of: the last ones are of those to which the shape leads. */
        private int partsToLookAt() {
            return last ? ledCount : schemas.endOfShelf(version) - version * MOST_PARTS;
        }

        private int partToLookAt(int i) {
            return !last ? version * MOST_PARTS + i : i >= 0 && i < led.length ? led[i] : NONE;
        }

        private boolean isLookedAt(int kind) {
            for (int i = 0; i < partsToLookAt(); i++) {
                if (schemas.kindOf(partToLookAt(i)) == kind) {
                    return true;
                }
            }
            return false;
        }

        /** A value comes in its order: it is noted for those that are built of it, or visited and given up. */
        private void come(int v) {
            if (!last) {
                if (smalls >= 0 && smalls < small.length) {
                    small[smalls] = v;
                    smalls++;
                }
                return;
            }
            if (isAimed(v)) {
                if (met == wanted) {
                    pool.keep(BEST_REGION, v);
                }
                met++;
            }
            pool.letGo();
        }

        private int smallAt(int i) {
            return i >= 0 && i < smalls && i < small.length ? small[i] : NONE;
        }

        private void goThroughSingles() {
            come(pool.number(0));
            come(pool.number(1));
            come(pool.number(-1));
            come(pool.text(0));
            come(pool.text(1));
            come(pool.close(LIST, 0, pool.stackMark()));
            come(pool.close(RECORD, 0, pool.stackMark()));
            come(pool.close(MAP, 0, pool.stackMark()));
        }

        private int firstInner(int n) {
            return n == 2 ? 0 : SINGLES;
        }

        private int endInner(int n) {
            return n == 2 ? SINGLES : smalls;
        }

        private int around(int kind, long code, long label, int inner) {
            int mark = pool.stackMark();
            pool.push(label, inner);
            return pool.close(kind, code, mark);
        }

        private int aroundTwo(int kind, long label, int inner, long nextLabel, int next) {
            int mark = pool.stackMark();
            pool.push(label, inner);
            pool.push(nextLabel, next);
            return pool.close(kind, 0, mark);
        }

        private void goThroughLists(int n) {
            int end = endInner(n);
            for (int i = firstInner(n); i < end; i++) {
                come(around(LIST, 0, 0, smallAt(i)));
            }
            for (int i = 0; i < SINGLES && n == 3; i++) {
                for (int j = 0; j < SINGLES; j++) {
                    come(aroundTwo(LIST, 0, smallAt(i), 0, smallAt(j)));
                }
            }
        }

        private void goThroughRecords(int n) {
            int end = endInner(n);
            int name = nextName(0);
            for (int k = 0; k < MOST_PARTS && name != 0; k++) {
                for (int i = firstInner(n); i < end; i++) {
                    come(around(RECORD, 0, name, smallAt(i)));
                }
                name = nextName(name);
            }
            name = nextName(0);
            for (int k = 0; k < MOST_PARTS && name != 0 && n == 3; k++) {
                for (int i = 0; i < SINGLES; i++) {
                    int second = nextName(name);
                    for (int j = 0; j < MOST_PARTS * SINGLES && second != 0; j++) {
                        come(aroundTwo(RECORD, name, smallAt(i), second, smallAt(j % SINGLES)));
                        second = j % SINGLES == SINGLES - 1 ? nextName(second) : second;
                    }
                }
                name = nextName(name);
            }
        }

        private void goThroughTagged(int n) {
            int end = endInner(n);
            int tag = nextTag(0);
            for (int k = 0; k < MOST_PARTS && tag != 0; k++) {
                for (int i = firstInner(n); i < end; i++) {
                    come(around(TAGGED, tag, 0, smallAt(i)));
                }
                tag = nextTag(tag);
            }
        }

        private void goThroughMaps(int n) {
            int end = endInner(n);
            for (int key = 1; key <= 2; key++) {
                for (int i = firstInner(n); i < end; i++) {
                    come(around(MAP, 0, key, smallAt(i)));
                }
            }
            for (int i = 0; i < SINGLES && n == 3; i++) {
                for (int j = 0; j < SINGLES; j++) {
                    come(aroundTwo(MAP, 1, smallAt(i), 2, smallAt(j)));
                }
            }
        }

        /** The first name of a field behind one; 0 if there is none. */
        private int nextName(int behind) {
            int next = 0;
            for (int i = 0; i < partsToLookAt(); i++) {
                int p = partToLookAt(i);
                for (int f = schemas.firstField(p); f < schemas.endField(p); f++) {
                    int name = schemas.nameOfField(f);
                    next = name > behind && (next == 0 || name < next) ? name : next;
                }
            }
            return next;
        }

        private int nextTag(int behind) {
            int next = 0;
            for (int i = 0; i < partsToLookAt(); i++) {
                int tag = schemas.kindOf(partToLookAt(i)) == TAGGED ? schemas.lowOf(partToLookAt(i)) : 0;
                next = tag > behind && (next == 0 || tag < next) ? tag : next;
            }
            return next;
        }

        // -- shrinking

        /** Puts the first one by order of those smaller ones that are aimed at into its region; false if there is none. */
        boolean findSmaller() {
            int root = SPARE_REGION * MOST_NODES;
            int count = Math.min(pool.nodesOf(root), MOST_NODES);
            for (int i = 0; i < count; i++) {
                for (int k = 0; k < pool.sizeOf(root + i); k++) {
                    int c = pool.childOf(root + i, k) - root;
                    if (c >= 0 && c < MOST_NODES) {
                        above[c] = i;
                        placeAbove[c] = k;
                    }
                }
            }
            boolean found = false;
            for (int i = 0; i < count; i++) {
                int v = root + i;
                found = i > 0 ? tryInstead(0, v, found) : found;
                if (pool.kindOf(v) == NUMBER) {
                    found = tryNumbers(i, found);
                } else if (pool.kindOf(v) == TEXT) {
                    found = tryTexts(i, found);
                } else if (pool.kindOf(v) != TAGGED) {
                    found = tryWithout(i, found);
                }
            }
            return found;
        }

        /** Keeps the whole value with another one at the place of a node, if it is aimed at and the first one so far. */
        private boolean tryInstead(int i, int v, boolean found) {
            int root = SPARE_REGION * MOST_NODES;
            int at = i;
            int whole = v;
            for (int k = 0; k < MOST_NODES && at > 0 && at < MOST_NODES; k++) {
                whole = pool.exchange(root + above[at], placeAbove[at], whole);
                at = above[at];
            }
            boolean first = !found || pool.order(whole, BEST_REGION * MOST_NODES, 0) < 0;
            boolean better = first && whole != NONE && isAimed(whole);
            if (better) {
                pool.keep(BEST_REGION, whole);
            }
            pool.free();
            return found || better;
        }

        private boolean tryNumbers(int i, boolean found) {
            int number = (int) pool.codeOf(SPARE_REGION * MOST_NODES + i);
            if (number == 0) {
                return found;
            }
            boolean now = tryInstead(i, pool.number(0), found);
            now = tryInstead(i, pool.number(number / 2), now);
            return tryInstead(i, pool.number(number < 0 ? number + 1 : number - 1), now);
        }

        private boolean tryTexts(int i, boolean found) {
            long letters = pool.codeOf(SPARE_REGION * MOST_NODES + i);
            int many = lettersIn(letters);
            boolean now = found;
            for (int left = 0; left < many; left++) {
                long shorter = 0;
                for (int k = 0; k < many; k++) {
                    shorter = k == left ? shorter : shorter * 27 + letterAt(letters, k, many);
                }
                now = tryInstead(i, pool.text(shorter), now);
            }
            return now;
        }

        private boolean tryWithout(int i, boolean found) {
            int v = SPARE_REGION * MOST_NODES + i;
            boolean now = found;
            for (int k = 0; k < pool.sizeOf(v); k++) {
                now = tryInstead(i, pool.exchange(v, k, NONE), now);
            }
            return now;
        }
    }
}
