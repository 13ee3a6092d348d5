import java.util.ArrayList;
import java.util.Comparator;
import java.util.HashMap;
import java.util.List;
import java.util.Map;
import java.util.Random;
import java.util.TreeMap;

/**
 * Promises 18 to 20, found once more in another way: of all values with the same places of which they are, a place
 * being a shape of one of two schemas, only the first one is kept, by rising nodes, and larger values are put
 * together of those alone. Arguments: a seed, how many pairs of schemas, and the most nodes.
 */
public final class WitnessTest {
    private static final Check C = new Check();
    private static final String[] NAMES = {"a", "b", "c"};
    private static final String[] TAGS = {"P", "Q"};
    private static final String[] DEFINITIONS = {"A", "B", "C", "D"};

    // ---- shapes as told

    private static final class Part {
        char kind;
        String name;
        int low;
        int high = 8;
        final List<Place> inner = new ArrayList<>();
        final List<String> fields = new ArrayList<>();
        final List<Boolean> may = new ArrayList<>();
        int bit;
    }

    private static final class Place {
        final List<Part> parts = new ArrayList<>();
        Schema schema;
        long bit;
    }

    private static final class Schema {
        final List<Place> definitions = new ArrayList<>();
    }

    private static Random random;

    private static Place place(Schema schema, int definitions, int budget) {
        Place place = new Place();
        place.schema = schema;
        int count = budget > 3 && random.nextInt(5) < 3 ? 2 : budget > 5 && random.nextInt(4) == 0 ? 3 : 1;
        for (int i = 0; i < count; i++) {
            place.parts.add(part(schema, definitions, budget / count));
        }
        return place;
    }

    private static Part part(Schema schema, int definitions, int budget) {
        Part p = new Part();
        int c = random.nextInt(20);
        if (budget <= 1) {
            c = random.nextInt(8);
        }
        if (c < 4) {
            p.kind = '@';
            p.name = DEFINITIONS[random.nextInt(definitions)];
        } else if (c < 6) {
            p.kind = 'n';
            p.low = random.nextInt(3) - 1;
            p.high = p.low + random.nextInt(3);
        } else if (c < 8) {
            p.kind = 't';
            p.name = new String[] {"", "(a)", "(b?)", "(a*)"}[random.nextInt(4)];
        } else if (c < 13) {
            p.kind = 'T';
            p.name = TAGS[random.nextInt(2)];
            p.inner.add(place(schema, definitions, budget - 1));
        } else if (c < 18) {
            p.kind = random.nextInt(5) == 0 ? '<' : '[';
            p.inner.add(place(schema, definitions, budget - 1));
            if (p.kind == '[' && random.nextInt(3) > 0) {
                p.low = random.nextInt(3);
                p.high = p.low + random.nextInt(3);
            }
        } else {
            p.kind = '{';
            int count = 1 + random.nextInt(2);
            for (int i = 0; i < count; i++) {
                p.fields.add(NAMES[i]);
                p.may.add(random.nextBoolean());
                p.inner.add(place(schema, definitions, (budget - 1) / count));
            }
        }
        return p;
    }

    private static Schema schema() {
        Schema schema = new Schema();
        int definitions = 1 + random.nextInt(4);
        for (int d = 0; d < definitions; d++) {
            schema.definitions.add(place(schema, definitions, 2 + random.nextInt(8)));
        }
        return schema;
    }

    private static String tell(Place place) {
        StringBuilder text = new StringBuilder();
        for (Part p : place.parts) {
            text.append(text.length() > 0 ? "|" : "").append(tell(p));
        }
        return text.toString();
    }

    private static String tell(Part p) {
        switch (p.kind) {
            case '@': return "@" + p.name;
            case 'n': return "num(" + p.low + ".." + p.high + ")";
            case 't': return "text" + p.name;
            case 'T': return p.name + "(" + tell(p.inner.get(0)) + ")";
            case '<': return "<" + tell(p.inner.get(0)) + ">";
            case '[': return "[" + tell(p.inner.get(0)) + (p.low == 0 && p.high == 8 ? "" : ";" + p.low + ".." + p.high) + "]";
            default:
                StringBuilder text = new StringBuilder();
                for (int i = 0; i < p.fields.size(); i++) {
                    text.append(i > 0 ? "," : "").append(p.fields.get(i)).append(p.may.get(i) ? "?:" : ":").append(tell(p.inner.get(i)));
                }
                return "{" + text + "}";
        }
    }

    private static String tell(Schema schema) {
        StringBuilder text = new StringBuilder();
        for (int d = 0; d < schema.definitions.size(); d++) {
            text.append(DEFINITIONS[d]).append("=").append(tell(schema.definitions.get(d))).append(";");
        }
        return text.toString();
    }

    /** A shape that is nearly the same: parts and numbers of items are changed here and there. */
    private static Place near(Place place, Schema schema, int definitions) {
        Place made = new Place();
        made.schema = schema;
        for (Part p : place.parts) {
            Part q = new Part();
            q.kind = p.kind;
            q.name = p.kind == '@' && random.nextInt(12) == 0 ? DEFINITIONS[random.nextInt(definitions)] : p.name;
            q.low = p.low;
            q.high = p.high;
            if (p.kind == 'n' && random.nextInt(4) == 0) {
                q.high++;
            }
            if (p.kind == '[' && random.nextInt(5) == 0) {
                q.low = Math.max(0, p.low - random.nextInt(2));
                q.high = Math.min(8, p.high + random.nextInt(2));
            }
            for (int i = 0; i < p.inner.size(); i++) {
                q.inner.add(near(p.inner.get(i), schema, definitions));
            }
            for (int i = 0; i < p.fields.size(); i++) {
                q.fields.add(p.fields.get(i));
                q.may.add(p.may.get(i) != (random.nextInt(8) == 0));
            }
            made.parts.add(q);
            if (random.nextInt(10) == 0) {
                made.parts.add(part(schema, definitions, 3));
            } else if (random.nextInt(8) == 0) {
                made.parts.add(near(place, schema, definitions).parts.get(0));
            }
        }
        return made;
    }

    // ---- values by the places of which they are

    private static final class Value {
        final String text;
        final int nodes;
        final int kind;
        final int number;
        final String name;
        final List<String> labels;
        final List<Value> inner;
        long places;

        Value(String text, int nodes, int kind, int number, String name, List<String> labels, List<Value> inner) {
            this.text = text;
            this.nodes = nodes;
            this.kind = kind;
            this.number = number;
            this.name = name;
            this.labels = labels;
            this.inner = inner;
        }
    }

    private static int compareNames(String one, String other) {
        return one.length() != other.length() ? one.length() - other.length() : one.compareTo(other);
    }

    private static int compare(Value one, Value other) {
        Comparator<Value> order = Comparator.comparingInt((Value v) -> v.nodes).thenComparingInt(v -> v.kind)
            .thenComparingInt(v -> Math.abs(v.number)).thenComparingInt(v -> -v.number);
        int first = order.compare(one, other);
        first = first != 0 ? first : compareNames(one.name, other.name);
        return first != 0 ? first : compareRows(one, other);
    }

    private static int compareRows(Value one, Value other) {
        int first = one.inner.size() - other.inner.size();
        for (int i = 0; i < one.inner.size() && first == 0; i++) {
            first = compareNames(one.labels.get(i), other.labels.get(i));
            first = first != 0 ? first : compare(one.inner.get(i), other.inner.get(i));
        }
        return first;
    }

    private static final List<Place> PLACES = new ArrayList<>();
    private static final List<Part> RECORDS = new ArrayList<>();
    private static Map<Long, Value> least;
    private static List<List<Value>> byNodes;

    private static void gather(Place place) {
        place.bit = 1L << PLACES.size();
        PLACES.add(place);
        for (Part p : place.parts) {
            if (p.kind == '{') {
                p.bit = 1 << RECORDS.size();
                RECORDS.add(p);
            }
            p.inner.forEach(WitnessTest::gather);
        }
    }

    private static boolean is(Value v, Place place) {
        for (Part p : place.parts) {
            if (is(v, p, place.schema)) {
                return true;
            }
        }
        return false;
    }

    private static boolean is(Value v, Part p, Schema schema) {
        switch (p.kind) {
            case '@': return is(v, schema.definitions.get(p.name.charAt(0) - 'A'));
            case 'n': return v.kind == 0 && v.number >= p.low && v.number <= p.high;
            case 't': return v.kind == 1 && (p.name.isEmpty() || v.name.matches(p.name));
            case 'T': return v.kind == 4 && v.name.equals(p.name) && (v.inner.get(0).places & p.inner.get(0).bit) != 0;
            case '{': return v.kind == 3 && isRecord(v, p);
            default:
                boolean all = v.kind == (p.kind == '[' ? 2 : 5) && v.inner.size() >= p.low && v.inner.size() <= p.high;
                for (int i = 0; i < v.inner.size() && all; i++) {
                    all = (v.inner.get(i).places & p.inner.get(0).bit) != 0;
                }
                return all;
        }
    }

    private static boolean isRecord(Value v, Part p) {
        int had = 0;
        for (int i = 0; i < p.fields.size(); i++) {
            int at = v.labels.indexOf(p.fields.get(i));
            if (at < 0 ? !p.may.get(i) : (v.inner.get(at).places & p.inner.get(i).bit) == 0) {
                return false;
            }
            had += at < 0 ? 0 : 1;
        }
        return had == v.inner.size();
    }

    private static void offer(Value v) {
        for (Place place : PLACES) {
            v.places |= is(v, place) ? place.bit : 0;
        }
        Value known = least.get(v.places);
        if (v.places != 0 && (known == null || compare(v, known) < 0)) {
            least.put(v.places, v);
        }
    }

    private static void leaves() {
        for (int i = -4; i <= 4; i++) {
            offer(new Value("" + i, 1, 0, i, "", List.of(), List.of()));
        }
        for (String text : new String[] {"", "a", "b", "c", "aa", "ab", "ba", "aaa"}) {
            offer(new Value("'" + text + "'", 1, 1, 0, text, List.of(), List.of()));
        }
    }

    private static Value row(int kind, List<String> labels, List<Value> inner) {
        StringBuilder text = new StringBuilder();
        int nodes = 1;
        for (int i = 0; i < inner.size(); i++) {
            text.append(i > 0 ? "," : "").append(kind == 5 ? "'" + labels.get(i) + "':" : kind == 3 ? labels.get(i) + ":" : "").append(inner.get(i).text);
            nodes += inner.get(i).nodes;
        }
        String all = kind == 2 ? "[" + text + "]" : kind == 3 ? "{" + text + "}" : "<" + text + ">";
        return new Value(all, nodes, kind, 0, "", labels, inner);
    }

    private static List<String> keys(int kind, int count) {
        List<String> all = List.of("", "a", "b", "c", "d", "e", "f", "g");
        return kind == 5 ? all.subList(0, count) : List.of("", "", "", "", "", "", "", "").subList(0, count);
    }

    private static <T> List<T> with(List<T> row, T more) {
        List<T> made = new ArrayList<>(row);
        made.add(more);
        return made;
    }

    /** Rows of so many items and nodes: of those whose items are all of the same places the first one. */
    private static Map<Long, Value>[][] rows;

    @SuppressWarnings("unchecked")
    private static void startRows(int most) {
        rows = new Map[9][most + 1];
        for (int i = 0; i < 9; i++) {
            for (int n = 0; n <= most; n++) {
                rows[i][n] = new HashMap<>();
            }
        }
        Value empty = row(2, List.of(), List.of());
        rows[0][1].put(-1L, empty);
    }

    private static void growRows(int n) {
        for (int count = 1; count <= 8; count++) {
            for (int last = 1; last < n - 1; last++) {
                for (Map.Entry<Long, Value> start : rows[count - 1][n - last].entrySet()) {
                    for (Value item : byNodes.get(last)) {
                        long both = start.getKey() & item.places;
                        if (both != 0) {
                            Value made = row(2, keys(2, count), with(start.getValue().inner, item));
                            rows[count][n].merge(both, made, (x, y) -> compareRows(x, y) <= 0 ? x : y);
                        }
                    }
                }
            }
            if (count == 1 && n > 1) {
                for (Value item : byNodes.get(n - 1)) {
                    rows[1][n].merge(item.places, row(2, keys(2, 1), List.of(item)), (x, y) -> compareRows(x, y) <= 0 ? x : y);
                }
            }
        }
        for (int count = 0; count <= 8; count++) {
            for (Value v : rows[count][n].values()) {
                offer(row(2, keys(2, count), v.inner));
                offer(row(5, keys(5, count), v.inner));
            }
        }
    }

    /** Whether the fields of a record up to a name leave each part of records in question: a bit for each part. */
    private static int holding(Part p, String name, Value v) {
        int at = p.fields.indexOf(name);
        boolean holds = v == null ? at < 0 || p.may.get(at) : at >= 0 && (v.places & p.inner.get(at).bit) != 0;
        return holds ? p.bit : 0;
    }

    private static int holdingAll(String name, Value v) {
        int bits = 0;
        for (Part p : RECORDS) {
            bits |= holding(p, name, v);
        }
        return bits;
    }

    private static void records(int n) {
        // the key: which parts still hold; one row for each number of nodes and fields
        List<Map<Integer, Value>> now = new ArrayList<>();
        for (int i = 0; i < (n + 1) * 4; i++) {
            now.add(new TreeMap<>());
        }
        now.get(4).put(-1, row(3, List.of(), List.of()));
        for (String name : NAMES) {
            List<Map<Integer, Value>> next = new ArrayList<>();
            for (int i = 0; i < (n + 1) * 4; i++) {
                next.add(new TreeMap<>());
            }
            int gone = holdingAll(name, null);
            for (int i = 0; i < now.size(); i++) {
                for (Map.Entry<Integer, Value> start : now.get(i).entrySet()) {
                    Value v = start.getValue();
                    next.get(i).merge(start.getKey() & gone, v, (x, y) -> compareRows(x, y) <= 0 ? x : y);
                    for (int last = 1; last <= n - v.nodes; last++) {
                        for (Value item : byNodes.get(last)) {
                            int bits = start.getKey() & holdingAll(name, item);
                            if (bits != 0) {
                                Value made = row(3, with(v.labels, name), with(v.inner, item));
                                next.get(made.nodes * 4 + made.inner.size()).merge(bits, made, (x, y) -> compareRows(x, y) <= 0 ? x : y);
                            }
                        }
                    }
                }
            }
            now = next;
        }
        for (int i = n * 4; i < now.size(); i++) {
            now.get(i).values().forEach(v -> offer(row(3, v.labels, v.inner)));
        }
    }

    private static boolean tooMany() {
        return least.size() > 400;
    }

    /** Finds the first values of all places; false if there are too many of them. */
    private static boolean findAll(Schema one, Schema other, int most) {
        PLACES.clear();
        RECORDS.clear();
        one.definitions.forEach(WitnessTest::gather);
        other.definitions.forEach(WitnessTest::gather);
        least = new HashMap<>();
        byNodes = new ArrayList<>();
        byNodes.add(List.of());
        startRows(most);
        for (int n = 1; n <= most && !tooMany(); n++) {
            if (n == 1) {
                leaves();
            }
            for (Value v : byNodes.get(n - 1)) {
                for (String tag : TAGS) {
                    offer(new Value(tag + "(" + v.text + ")", n, 4, 0, tag, List.of(""), List.of(v)));
                }
            }
            growRows(n);
            if (!RECORDS.isEmpty()) {
                records(n);
            }
            List<Value> found = new ArrayList<>();
            for (Value v : least.values()) {
                if (v.nodes == n) {
                    found.add(v);
                }
            }
            byNodes.add(found);
        }
        return PLACES.size() <= 60 && !tooMany();
    }

    private static Value first(long in, long out) {
        Value found = null;
        for (Value v : least.values()) {
            boolean is = (v.places & in) == in && (v.places & out) == 0;
            found = is && (found == null || compare(v, found) < 0) ? v : found;
        }
        return found;
    }

    private static int beyond;
    private static final Map<Integer, Integer> FOUND = new TreeMap<>();

    private static void due(String what, ShapeLang x, int nodes, Value found, int most) {
        if (found == null && nodes > most) {
            beyond++;
            return;
        }
        FOUND.merge(nodes, 1, Integer::sum);
        C.is(what, Check.out(x), found == null ? "" : found.text);
        C.is(what + " nodes", nodes, found == null ? ShapeLang.NONE : found.nodes);
    }

    private static boolean beginBoth(ShapeLang x, String one, String other) {
        try {
            Check.begin(x, one);
            Check.begin(x, other);
            return true;
        } catch (IllegalStateException e) {
            return false;
        }
    }

    private static boolean compareBoth(int most) {
        Schema one = schema();
        Schema other = new Schema();
        one.definitions.forEach(d -> other.definitions.add(near(d, other, one.definitions.size())));
        String told = tell(one);
        String toldOther = tell(other);
        ShapeLang x = new ShapeLang();
        if (told.length() > 600 || toldOther.length() > 600 || !beginBoth(x, told, toldOther) || !findAll(one, other, most)) {
            return false;
        }
        for (int d = 0; d < one.definitions.size(); d++) {
            Place p = one.definitions.get(d);
            Place q = other.definitions.get(d);
            due("P18 " + told + " " + toldOther + " " + d, x, x.witness(0, d, 1, d), first(p.bit, q.bit), most);
            due("P18 back " + told + " " + toldOther + " " + d, x, x.witness(1, d, 0, d), first(q.bit, p.bit), most);
            due("P19 " + told + " " + toldOther + " " + d, x, x.common(0, d, 1, d), first(p.bit | q.bit, 0), most);
            due("P20 " + told + " " + d, x, x.least(0, d), first(p.bit, 0), most);
        }
        return true;
    }

    /** Shapes that lead to two of a kind twice, in rings of unlike length: many sets of shapes are to be kept out of. */
    private static void rings() {
        String[] lists = {
            "A=@B|[@B;1..1];B=[[@D;0..1]|@C;2..5];C=[[[[[[@D;3..3];0..1];2..2];2..2]]];D=[[[[[[[@C;3..4];3..3];0..1];0..3]]];2..5];",
            "A=[@B;3..3]|@B;B=[@D|@C;0..2];C=[[[[[[@C;2..3];2..4];1..1];2..4];0..2];3..6];D=[[[[[[[[@D;1..3]|num;2..2];2..4]|text;2..2];2..2];1..4];1..4];1..4];",
            "A=[@B]|[[@B]];B=[[@C]|[@D]];C=[[[[[@C]]]]];D=[[[[[[[@D]]]]]]];",
            "A=[@B;1..1]|[[@B;1..1];1..1];B=[[@C;1..1]|[@D;1..1];1..1];C=[[[[@C;1..1];1..1]|num;1..1];1..1];D=[[[[[[@D;1..1];1..1];1..1]|num;1..1];1..1];1..1];"};
        for (String one : lists) {
            for (String other : lists) {
                ShapeLang x = new ShapeLang();
                Check.begin(x, one);
                Check.begin(x, other);
                for (int d = 0; d < 4; d++) {
                    C.is("P18 of itself " + one + d, x.witness(0, d, 0, d), ShapeLang.NONE);
                    int nodes = x.witness(0, 0, 1, d);
                    C.is("P18 a value or none " + one + other + d, nodes == ShapeLang.NONE ? 0 : 1, Check.out(x).isEmpty() ? 0 : 1);
                    if (nodes != ShapeLang.NONE) {
                        C.is("P18 nodes " + one + other + d, Check.put(x, 0, Check.out(x)), nodes);
                        C.is("P18 of the first " + one + other + d, x.isOf(0, 0, 0) ? 1 : 0, 1);
                        C.is("P18 not of the second " + one + other + d, x.isOf(1, d, 0) ? 1 : 0, 0);
                    }
                }
            }
        }
    }

    public static void main(String[] args) {
        rings();
        random = new Random(args.length > 0 ? Long.parseLong(args[0]) : 20);
        int pairs = args.length > 1 ? Integer.parseInt(args[1]) : 250;
        int most = args.length > 2 ? Integer.parseInt(args[2]) : 9;
        for (int i = 0; i < pairs;) {
            i += compareBoth(most) ? 1 : 0;
        }
        if (args.length > 0) {
            System.out.println("nodes " + FOUND + ", beyond " + beyond);
        }
        C.end("WitnessTest");
    }
}
