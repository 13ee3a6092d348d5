import java.util.function.Supplier;

/**
 * Which exception each call throws, which one if several apply, that nothing else is changed then than told, and who
 * takes the tape over. Each call is made of one of two objects with the same past, which must look alike behind it.
 */
public final class ThrowsTest {
    private static final Check C = new Check();
    private static final int MIN = Integer.MIN_VALUE, MAX = Integer.MAX_VALUE;
    private static final Class<IndexOutOfBoundsException> NO_SUCH = IndexOutOfBoundsException.class;
    private static final Class<IllegalArgumentException> RANGE = IllegalArgumentException.class;
    private static final Class<IllegalStateException> STATE = IllegalStateException.class;
    private static final int NONE = ShapeLang.NONE, OLD_FAULT = 3;

    interface Call {
        long of(ShapeLang x);
    }

    private static Supplier<ShapeLang> past = ThrowsTest::world;

    /** 5 versions, slots 5 to 7 empty, 2 documents, a result, an out, and a fault. */
    private static ShapeLang world() {
        ShapeLang x = new ShapeLang();
        Check.begin(x, "R={a:num(0..9),b?:@S};S=[num]|text;");
        Check.change(x, 0, ShapeLang.RENAME, 0, 0, "a,c");
        Check.change(x, 0, ShapeLang.DROP, 0, 0, "b=''");
        Check.begin(x, "Q=num;");
        Check.change(x, 0, ShapeLang.RENAME, 0, 0, "a,d");
        Check.put(x, 0, "{a:1}");
        Check.put(x, 1, "{a:2,b:'x'}");
        Check.put(x, 2, "5");
        Check.put(x, 3, "{c:3}");
        Check.put(x, 4, "[1,A(1),B(1),C(1),D(1),E(1),F(1)]");
        // slots that had a value once, and a schema that was nearly a version
        for (int slot = 5; slot < 8; slot++) {
            Check.put(x, slot, "{a:4}");
            x.clear(slot);
        }
        Check.feed(x, "e:num=(f),f:num=(e)");
        C.noState("a ring", () -> x.change(0, ShapeLang.ADD, 0, 0));
        x.write(0, 0);
        x.write(3, 2);
        Check.feed(x, ".a");
        x.query(0, 1);
        Check.feed(x, "[1,");
        C.noState("a fault", () -> x.put(7));
        x.show(4);
        return x;
    }

    /** The same with 12 versions. */
    private static ShapeLang full() {
        ShapeLang x = world();
        for (int v = x.versions(); v < 12; v++) {
            Check.begin(x, "T=text;");
        }
        Check.feed(x, "[1,");
        C.noState("a fault", () -> x.put(7));
        return x;
    }

    /** Throws and leaves all as it was, but for the tape and the fault, which are as told. */
    private static void thrown(String what, Class<? extends RuntimeException> due, String tape, int fault, int left, Call call) {
        ShapeLang x = past.get();
        ShapeLang y = past.get();
        Check.feed(x, tape);
        C.isThrown(what, due, () -> call.of(x));
        C.is(what + ": fault", x.fault(), fault);
        C.is(what + ": tape", Seen.tape(x), left);
        C.is(what + ": all else", Seen.of(x), Seen.of(y));
    }

    /** Throws without taking the tape over. */
    private static void leaves(String what, Class<? extends RuntimeException> due, Call call) {
        thrown(what, due, "R=num;", OLD_FAULT, 6, call);
    }

    /** Throws, and the text that it took over has a fault, or NONE. */
    private static void takes(String what, String text, int fault, Call call) {
        thrown(what, STATE, text, fault, 0, call);
    }

    public static void main(String[] args) {
        tapeAndValues();
        versions();
        shapes();
        converting();
        queries();
        store();
        smallOnes();
        past = ThrowsTest::full;
        fullOfVersions();
        fullOfDocuments();
        answersLeaveTheRest();
        C.end("ThrowsTest");
    }

    private static void tapeAndValues() {
        for (int n : new int[] {0, 9, -1, MIN, MAX}) {
            leaves("P2 feed " + n, RANGE, x -> x.feed(5, n));
        }
        thrown("P2 n ahead of the room", RANGE, " ".repeat(600), OLD_FAULT, 600, x -> x.feed(5, 9));
        for (int slot : new int[] {-1, 8, MIN, MAX}) {
            leaves("P6 put " + slot, NO_SUCH, x -> x.put(slot));
            leaves("P7 clear " + slot, NO_SUCH, x -> x.clear(slot) ? 1 : 0);
            leaves("P8 show " + slot, NO_SUCH, x -> x.show(slot));
            leaves("P9 compare " + slot, NO_SUCH, x -> x.compare(slot, 0));
            leaves("P9 compare with " + slot, NO_SUCH, x -> x.compare(0, slot));
            leaves("P9 the slot ahead of an empty one " + slot, NO_SUCH, x -> x.compare(7, slot));
            leaves("P9 the slot ahead of another empty one " + slot, NO_SUCH, x -> x.compare(slot, 7));
        }
        takes("P6 a fault", "[2", 2, x -> x.put(0));
        takes("P6 no text", "", 0, x -> x.put(0));
        takes("P6 61 nodes", "[" + "[0,0,0,0,0,0,0],".repeat(7) + "[0,0,0]]", 122, x -> x.put(0));
        leaves("P8 empty", STATE, x -> x.show(7));
        leaves("P9 empty", STATE, x -> x.compare(7, 0));
        leaves("P9 the other one empty", STATE, x -> x.compare(0, 7));
        leaves("P9 both empty", STATE, x -> x.compare(7, 7));
    }

    private static void versions() {
        takes("P10 a fault", "R=num", 5, ShapeLang::begin);
        takes("P10 no text", "", 0, ShapeLang::begin);
        takes("P10 not as told", "R=@T;", 6, ShapeLang::begin);
        for (int v : new int[] {-1, 5, MIN, MAX}) {
            leaves("P11 version " + v, NO_SUCH, x -> x.change(v, ShapeLang.RENAME, 0, 0));
            leaves("P11 version ahead of kind " + v, NO_SUCH, x -> x.change(v, 12, 0, 0));
            leaves("P13 " + v, NO_SUCH, x -> x.parent(v));
            leaves("P14 " + v, NO_SUCH, x -> x.schema(v));
            leaves("P15 " + v, NO_SUCH, x -> x.signature(v));
            leaves("P16 " + v, NO_SUCH, x -> x.isPlain(v) ? 1 : 0);
        }
        for (int d : new int[] {-1, 2, MIN, MAX}) {
            leaves("P11 definition " + d, NO_SUCH, x -> x.change(0, ShapeLang.RENAME, d, 0));
            leaves("P11 definition ahead of n " + d, NO_SUCH, x -> x.change(0, ShapeLang.RENAME, d, 7));
        }
        leaves("P11 the definitions of this version", NO_SUCH, x -> x.change(3, ShapeLang.RENAME, 1, 0));
        for (int kind : new int[] {-1, 12, MIN, MAX}) {
            leaves("P11 kind " + kind, RANGE, x -> x.change(0, kind, 0, 0));
            leaves("P11 kind of a definition that cannot be changed " + kind, RANGE, x -> x.change(0, kind, 1, 0));
        }
        for (int kind = ShapeLang.ADD; kind <= ShapeLang.REQUIRE; kind++) {
            int of = kind;
            boolean counts = kind == ShapeLang.SPLIT || kind == ShapeLang.JOIN;
            for (int n : counts ? new int[] {1, 101, 0, -1, -2, MIN, MAX} : new int[] {1, 2, -1, 100, MIN, MAX}) {
                leaves("P11 n " + n + " of " + kind, RANGE, x -> x.change(0, of, 0, n));
            }
            takes("P11 no text of " + kind, "", 0, x -> x.change(0, of, 0, counts ? 2 : 0));
        }
        takes("P11 a fault", "a,", 2, x -> x.change(0, ShapeLang.RENAME, 0, 0));
        takes("P11 a fault ahead of what is refused", "a,B", 2, x -> x.change(0, ShapeLang.RENAME, 1, 0));
        takes("P11 refused", "z,y", NONE, x -> x.change(0, ShapeLang.RENAME, 0, 0));
        takes("P11 refused when the schema stands", "e:num=(f),f:num=(e)", NONE, x -> x.change(0, ShapeLang.ADD, 0, 0));
        takes("P11 refused by its definition", "a,z", NONE, x -> x.change(0, ShapeLang.RENAME, 1, 0));
    }

    private static void shapes() {
        int[] versions = {-1, 5, MIN, MAX};
        for (int v : versions) {
            leaves("P17 version " + v, NO_SUCH, x -> x.isOf(v, 0, 0) ? 1 : 0);
            leaves("P17 version ahead of an empty slot " + v, NO_SUCH, x -> x.isOf(v, 0, 7) ? 1 : 0);
            leaves("P18 version " + v, NO_SUCH, x -> x.witness(v, 0, 0, 0));
            leaves("P18 other version " + v, NO_SUCH, x -> x.witness(0, 0, v, 0));
            leaves("P19 version " + v, NO_SUCH, x -> x.common(v, 0, 0, 0));
            leaves("P19 other version " + v, NO_SUCH, x -> x.common(0, 0, v, 0));
            leaves("P20 version " + v, NO_SUCH, x -> x.least(v, 0));
        }
        for (int d : new int[] {-1, 2, MIN, MAX}) {
            leaves("P17 definition " + d, NO_SUCH, x -> x.isOf(0, d, 0) ? 1 : 0);
            leaves("P17 definition ahead of an empty slot " + d, NO_SUCH, x -> x.isOf(0, d, 7) ? 1 : 0);
            leaves("P18 definition " + d, NO_SUCH, x -> x.witness(0, d, 0, 0));
            leaves("P18 other definition " + d, NO_SUCH, x -> x.witness(0, 0, 0, d));
            leaves("P19 definition " + d, NO_SUCH, x -> x.common(0, d, 0, 0));
            leaves("P19 other definition " + d, NO_SUCH, x -> x.common(0, 0, 0, d));
            leaves("P20 definition " + d, NO_SUCH, x -> x.least(0, d));
        }
        leaves("P17 a definition of another version", NO_SUCH, x -> x.isOf(3, 1, 0) ? 1 : 0);
        leaves("P18 a definition of another version", NO_SUCH, x -> x.witness(0, 1, 3, 1));
        leaves("P19 a definition of another version", NO_SUCH, x -> x.common(3, 1, 0, 1));
        leaves("P20 a definition of another version", NO_SUCH, x -> x.least(3, 1));
        for (int slot : new int[] {-1, 8, MIN, MAX}) {
            leaves("P17 slot " + slot, NO_SUCH, x -> x.isOf(0, 0, slot) ? 1 : 0);
        }
        leaves("P17 empty", STATE, x -> x.isOf(0, 0, 7) ? 1 : 0);
        for (int slots : new int[] {-1, 256, MIN, MAX}) {
            leaves("P21 slots " + slots, RANGE, x -> x.infer(slots, 1));
        }
        for (int growth : new int[] {0, 5, -1, MIN, MAX}) {
            leaves("P21 growth " + growth, RANGE, x -> x.infer(1, growth));
        }
        leaves("P21 growth ahead of what is not inferred", RANGE, x -> x.infer(16, 5));
        leaves("P21 slots ahead of what is not inferred", RANGE, x -> x.infer(16 + 256, 4));
        leaves("P21 nothing is inferred", STATE, x -> x.infer(16, 4));
    }

    private static void converting() {
        for (int v : new int[] {-1, 5, MIN, MAX}) {
            leaves("P22 from " + v, NO_SUCH, x -> x.convert(v, 0, 0, 5));
            leaves("P22 to " + v, NO_SUCH, x -> x.convert(0, v, 0, 5));
            leaves("P22 to ahead of an empty slot " + v, NO_SUCH, x -> x.convert(0, v, 7, 5));
            leaves("P23 from " + v, NO_SUCH, x -> x.losses(v, 0));
            leaves("P23 to " + v, NO_SUCH, x -> x.losses(0, v));
            leaves("P24 version " + v, NO_SUCH, x -> x.encode(v, 0));
            leaves("P24 version ahead of an empty slot " + v, NO_SUCH, x -> x.encode(v, 7));
            leaves("P25 version " + v, NO_SUCH, x -> x.decode(v, 8, 5));
            leaves("P25 version ahead of bits " + v, NO_SUCH, x -> x.decode(v, -1, 5));
        }
        for (int slot : new int[] {-1, 8, MIN, MAX}) {
            leaves("P22 slot " + slot, NO_SUCH, x -> x.convert(0, 1, slot, 5));
            leaves("P22 target " + slot, NO_SUCH, x -> x.convert(0, 1, 0, slot));
            leaves("P22 target ahead of an empty slot " + slot, NO_SUCH, x -> x.convert(0, 1, 7, slot));
            leaves("P24 slot " + slot, NO_SUCH, x -> x.encode(0, slot));
            leaves("P25 slot " + slot, NO_SUCH, x -> x.decode(0, 8, slot));
            leaves("P25 slot ahead of bits " + slot, NO_SUCH, x -> x.decode(0, 4801, slot));
        }
        leaves("P22 empty", STATE, x -> x.convert(0, 1, 7, 5));
        leaves("P22 no way", STATE, x -> x.convert(0, 3, 0, 5));
        leaves("P22 not of the root", STATE, x -> x.convert(1, 0, 0, 5));
        leaves("P22 not of the root, into itself", STATE, x -> x.convert(0, 0, 2, 2));
        leaves("P24 empty", STATE, x -> x.encode(0, 7));
        leaves("P24 not of the root", STATE, x -> x.encode(0, 2));
        for (int bits : new int[] {-1, 4801, MIN, MAX}) {
            leaves("P25 bits " + bits, RANGE, x -> x.decode(3, bits, 5));
        }
        thrown("P25 not so many bits", STATE, "R=num;", OLD_FAULT, 0, x -> x.decode(3, 49, 5));
        thrown("P25 4800 bits", STATE, "R=num;", OLD_FAULT, 0, x -> x.decode(3, 4800, 5));
        thrown("P25 no bits", STATE, "R=num;", OLD_FAULT, 0, x -> x.decode(3, 0, 5));
        thrown("P25 the form of no value", STATE, "R=num;", OLD_FAULT, 0, x -> x.decode(3, 14, 0));
        thrown("P25 an empty tape", STATE, "", OLD_FAULT, 0, x -> x.decode(3, 1, 0));
    }

    private static void queries() {
        for (int v : new int[] {-1, 5, MIN, MAX}) {
            thrown("P26 version " + v, NO_SUCH, ".a", OLD_FAULT, 2, x -> x.query(v, 0));
            thrown("P26 version ahead of the text " + v, NO_SUCH, "a", OLD_FAULT, 1, x -> x.query(v, 7));
            thrown("P28 version " + v, NO_SUCH, ".a", OLD_FAULT, 2, x -> x.shapeOf(v));
            thrown("P29 from " + v, NO_SUCH, ".a", OLD_FAULT, 2, x -> x.rewrite(v, 0));
            thrown("P29 to " + v, NO_SUCH, ".a", OLD_FAULT, 2, x -> x.rewrite(0, v));
            thrown("P29 to ahead of the text " + v, NO_SUCH, "a", OLD_FAULT, 1, x -> x.rewrite(0, v));
        }
        for (int slot : new int[] {-1, 8, MIN, MAX}) {
            thrown("P26 slot " + slot, NO_SUCH, ".a", OLD_FAULT, 2, x -> x.query(0, slot));
        }
        takes("P26 empty", ".a", NONE, x -> x.query(0, 7));
        takes("P26 a fault", ".a.", 3, x -> x.query(0, 0));
        takes("P26 a fault ahead of an empty slot", ".a.", 3, x -> x.query(0, 7));
        takes("P26 no text", "", 0, x -> x.query(0, 0));
        takes("P26 9 steps", ".a".repeat(9), 19, x -> x.query(0, 0));
        takes("P26 cannot be gone", ".c", NONE, x -> x.query(0, 0));
        takes("P26 cannot be gone, nor is there a value", ".c", NONE, x -> x.query(0, 7));
        takes("P26 not of the root", ".a", NONE, x -> x.query(0, 3));
        for (int r : new int[] {-1, 1, MIN, MAX}) {
            leaves("P27 result " + r, NO_SUCH, x -> x.result(r));
        }
        takes("P28 a fault", ".a!", 3, x -> x.shapeOf(0));
        takes("P28 no text", "", 0, x -> x.shapeOf(0));
        takes("P28 cannot be gone", ".b<>", NONE, x -> x.shapeOf(0));
        takes("P29 a fault", "[", 1, x -> x.rewrite(0, 1));
        takes("P29 a fault ahead of no way", "[", 1, x -> x.rewrite(0, 3));
        takes("P29 no text", "", 0, x -> x.rewrite(0, 0));
        takes("P29 cannot be gone", ".c", NONE, x -> x.rewrite(0, 1));
        takes("P29 no way", ".a", NONE, x -> x.rewrite(0, 3));
        takes("P29 cannot be rewritten", ".b", NONE, x -> x.rewrite(0, 2));
        takes("P29 cannot be rewritten further on", ".b[]", NONE, x -> x.rewrite(1, 2));
    }

    private static void store() {
        for (int v : new int[] {-1, 5, MIN, MAX}) {
            leaves("P30 version " + v, NO_SUCH, x -> x.write(v, 0));
            leaves("P30 version ahead of an empty slot " + v, NO_SUCH, x -> x.write(v, 7));
            leaves("P31 version " + v, NO_SUCH, x -> x.read(0, v, 5));
            leaves("P32 version " + v, NO_SUCH, x -> x.move(v, 1));
            leaves("P32 version ahead of most " + v, NO_SUCH, x -> x.move(v, 0));
            leaves("P34 version " + v, NO_SUCH, x -> x.conflicts(v, 0));
            leaves("P34 other " + v, NO_SUCH, x -> x.conflicts(0, v));
            leaves("P35 version " + v, NO_SUCH, x -> x.merge(v, 0));
            leaves("P35 other " + v, NO_SUCH, x -> x.merge(0, v));
        }
        for (int slot : new int[] {-1, 8, MIN, MAX}) {
            leaves("P30 slot " + slot, NO_SUCH, x -> x.write(0, slot));
            leaves("P31 slot " + slot, NO_SUCH, x -> x.read(0, 0, slot));
            leaves("P31 slot ahead of what cannot be converted " + slot, NO_SUCH, x -> x.read(1, 0, slot));
        }
        leaves("P30 empty", STATE, x -> x.write(0, 7));
        leaves("P30 not of the root", STATE, x -> x.write(0, 3));
        for (int d : new int[] {-1, 2, MIN, MAX}) {
            leaves("P31 document " + d, NO_SUCH, x -> x.read(d, 0, 5));
            leaves("P33 document " + d, NO_SUCH, x -> x.versionOf(d));
        }
        leaves("P31 no way", STATE, x -> x.read(1, 0, 5));
        leaves("P31 no way into a filled slot", STATE, x -> x.read(0, 3, 0));
        for (int most : new int[] {0, 13, -1, MIN, MAX}) {
            leaves("P32 most " + most, RANGE, x -> x.move(1, most));
        }
        leaves("P35 a conflict", STATE, x -> x.merge(1, 4));
        leaves("P35 none from which both come", STATE, x -> x.merge(0, 3));
    }

    private static void smallOnes() {
        for (int v : new int[] {-1, 5, MIN, MAX}) {
            leaves("P36 version " + v, NO_SUCH, x -> x.small(v, 0, 1));
            leaves("P36 version ahead of nodes " + v, NO_SUCH, x -> x.small(v, 0, 0));
            leaves("P37 version " + v, NO_SUCH, x -> x.putSmall(v, 0, 2, 0, 5));
            leaves("P37 version ahead of nodes " + v, NO_SUCH, x -> x.putSmall(v, 0, 0, 0, 5));
            leaves("P38 version " + v, NO_SUCH, x -> x.refuted(v, 0, 0, 0, 1));
            leaves("P38 other version ahead of nodes " + v, NO_SUCH, x -> x.refuted(0, 0, v, 0, 4));
            leaves("P39 version " + v, NO_SUCH, x -> x.shrink(v, 0, 0, 1, 0));
            leaves("P39 other version ahead of an empty slot " + v, NO_SUCH, x -> x.shrink(0, 0, v, 1, 7));
        }
        for (int d : new int[] {-1, 2, MIN, MAX}) {
            leaves("P36 definition " + d, NO_SUCH, x -> x.small(0, d, 1));
            leaves("P36 definition ahead of nodes " + d, NO_SUCH, x -> x.small(0, d, 4));
            leaves("P37 definition " + d, NO_SUCH, x -> x.putSmall(0, d, 2, 0, 5));
            leaves("P37 definition ahead of nodes " + d, NO_SUCH, x -> x.putSmall(0, d, 0, 0, 5));
            leaves("P38 definition " + d, NO_SUCH, x -> x.refuted(0, d, 0, 0, 1));
            leaves("P38 other definition ahead of nodes " + d, NO_SUCH, x -> x.refuted(0, 0, 0, d, 0));
            leaves("P39 definition " + d, NO_SUCH, x -> x.shrink(0, d, 0, 1, 0));
            leaves("P39 other definition ahead of an empty slot " + d, NO_SUCH, x -> x.shrink(0, 0, 0, d, 7));
        }
        for (int slot : new int[] {-1, 8, MIN, MAX}) {
            leaves("P37 slot " + slot, NO_SUCH, x -> x.putSmall(0, 0, 2, 0, slot));
            leaves("P37 slot ahead of nodes " + slot, NO_SUCH, x -> x.putSmall(0, 0, 0, 0, slot));
            leaves("P39 slot " + slot, NO_SUCH, x -> x.shrink(0, 0, 0, 1, slot));
        }
        for (int nodes : new int[] {0, 4, -1, MIN, MAX}) {
            leaves("P36 nodes " + nodes, RANGE, x -> x.small(0, 0, nodes));
            leaves("P37 nodes " + nodes, RANGE, x -> x.putSmall(0, 0, nodes, 0, 5));
            leaves("P37 nodes ahead of a far place " + nodes, RANGE, x -> x.putSmall(0, 0, nodes, MAX, 5));
            leaves("P37 a place below 0 ahead of nodes " + nodes, NO_SUCH, x -> x.putSmall(0, 0, nodes, -1, 5));
            leaves("P38 nodes " + nodes, RANGE, x -> x.refuted(0, 0, 0, 1, nodes));
        }
        // {a:0} and {a:1} are the small ones with two nodes
        for (int place : new int[] {-1, 2, MIN, MAX}) {
            leaves("P37 place " + place, NO_SUCH, x -> x.putSmall(0, 0, 2, place, 1));
        }
        leaves("P37 there is none", NO_SUCH, x -> x.putSmall(0, 0, 1, 0, 1));
        leaves("P36 a definition of another version", NO_SUCH, x -> x.small(3, 1, 1));
        leaves("P37 a definition of another version", NO_SUCH, x -> x.putSmall(3, 1, 2, 0, 5));
        leaves("P38 a definition of another version", NO_SUCH, x -> x.refuted(0, 0, 3, 1, 1));
        leaves("P39 a definition of another version", NO_SUCH, x -> x.shrink(0, 0, 3, 1, 0));
        leaves("P39 empty", STATE, x -> x.shrink(0, 0, 0, 1, 7));
        leaves("P39 not of the first one", STATE, x -> x.shrink(0, 0, 0, 1, 2));
        leaves("P39 of the second one", STATE, x -> x.shrink(0, 0, 0, 0, 0));
        leaves("P39 not of the first one, but of the second one", STATE, x -> x.shrink(0, 0, 3, 0, 2));
    }

    private static void fullOfVersions() {
        takes("P10 the 13th", "R=num;", NONE, ShapeLang::begin);
        takes("P10 a fault ahead of the 13th", "R=nun;", 4, ShapeLang::begin);
        takes("P10 a fault at the end ahead of the 13th", "R=num(2..1);", 13, ShapeLang::begin);
        takes("P11 the 13th", "a,z", NONE, x -> x.change(0, ShapeLang.RENAME, 0, 0));
        takes("P11 a fault ahead of the 13th", "a;z", 1, x -> x.change(0, ShapeLang.RENAME, 0, 0));
        thrown("P11 kind ahead of the 13th", RANGE, "a,z", OLD_FAULT, 3, x -> x.change(0, 12, 0, 0));
        thrown("P11 definition ahead of the 13th", NO_SUCH, "a,z", OLD_FAULT, 3, x -> x.change(0, 2, 2, 0));
        leaves("P21 the 13th", STATE, x -> x.infer(4, 1));
        leaves("P21 slots ahead of the 13th", RANGE, x -> x.infer(256, 1));
        leaves("P21 growth ahead of the 13th", RANGE, x -> x.infer(4, 0));
        leaves("P35 the 13th", STATE, x -> x.merge(1, 2));
    }

    private static void fullOfDocuments() {
        past = () -> {
            ShapeLang x = world();
            for (int d = 2; d < 12; d++) {
                x.write(3, 2);
            }
            return x;
        };
        leaves("P30 the 13th", STATE, x -> x.write(3, 2));
        leaves("P30 not of the root, nor is there room", STATE, x -> x.write(3, 0));
        leaves("P30 slot ahead of the 13th", NO_SUCH, x -> x.write(3, 8));
        leaves("P31 the 13th", NO_SUCH, x -> x.read(12, 0, 5));
        leaves("P33 the 13th", NO_SUCH, x -> x.versionOf(12));
    }

    /** Calls that answer: those that take no text over leave the tape and the fault, those that do not tell a text the out. */
    private static void answersLeaveTheRest() {
        past = ThrowsTest::world;
        String[] names = {"fault", "length", "word", "clear", "show", "compare", "versions", "parent", "schema", "signature", "isPlain", "isOf",
            "witness", "no witness", "common", "no common", "least", "infer", "convert", "losses", "encode", "result", "write", "read", "move",
            "versionOf", "conflicts", "merge", "merge nothing", "small", "putSmall", "refuted", "shrink"};
        Call[] calls = {x -> x.fault(), x -> x.length(), x -> x.word(1), x -> x.clear(1) ? 1 : 0, x -> x.show(1), x -> x.compare(0, 1), x -> x.versions(),
            x -> x.parent(1), x -> x.schema(1), x -> x.signature(1), x -> x.isPlain(0) ? 1 : 0, x -> x.isOf(0, 0, 0) ? 1 : 0,
            x -> x.witness(0, 0, 1, 0), x -> x.witness(0, 0, 0, 0), x -> x.common(0, 0, 0, 0), x -> x.common(0, 0, 0, 1), x -> x.least(0, 0),
            x -> x.infer(15, 2), x -> x.convert(0, 1, 0, 5), x -> x.losses(0, 2), x -> x.encode(0, 0), x -> x.result(0), x -> x.write(0, 0), x -> x.read(0, 1, 5),
            x -> x.move(1, 1), x -> x.versionOf(0), x -> x.conflicts(1, 2), x -> x.merge(1, 2), x -> x.merge(1, 0), x -> x.small(0, 0, 3), x -> x.putSmall(0, 0, 3, 0, 5),
            x -> x.refuted(0, 0, 0, 1, 3), x -> x.shrink(0, 0, 0, 1, 1)};
        String[] outs = {"-", "-", "-", "-", "{a:2,b:'x'}", "-", "-", "-", "R={b?:@S,c:num(0..9)};S=[num]|text;", "-", "-", "-",
            "{a:0}", "", "{a:0}", "", "{a:0}", "-", "-", "-", "\u0010", "2", "-", "-", "-",
            "-", "-", "-", "-", "-", "-", "-", "-"};
        for (int i = 0; i < calls.length; i++) {
            ShapeLang x = world();
            String out = Check.out(x);
            Check.feed(x, "7");
            calls[i].of(x);
            C.is(names[i] + ": fault", x.fault(), OLD_FAULT);
            C.is(names[i] + ": the out", Check.out(x), outs[i].equals("-") ? out : outs[i]);
            C.is(names[i] + ": the tape", x.put(6), 1);
            C.is(names[i] + ": the value that it told", Check.show(x, 6), "7");
        }
        String[] takers = {"put", "begin", "change", "decode", "query", "shapeOf", "rewrite"};
        String[] texts = {"77", "R=text;", "a,e", "\u0000\u0000", ".b", ".b", ".a"};
        Call[] taking = {x -> x.put(5), x -> x.begin(), x -> x.change(0, ShapeLang.RENAME, 0, 0), x -> x.decode(3, 15, 5), x -> x.query(0, 1), x -> x.shapeOf(0), x -> x.rewrite(0, 1)};
        String[] told = {"-", "-", "-", "-", "-", "@S", ".c"};
        for (int i = 0; i < taking.length; i++) {
            ShapeLang x = world();
            String out = Check.out(x);
            Check.feed(x, texts[i]);
            taking[i].of(x);
            C.is(takers[i] + ": fault", x.fault(), takers[i].equals("decode") ? OLD_FAULT : NONE);
            C.is(takers[i] + ": the out", Check.out(x), told[i].equals("-") ? out : told[i]);
            C.is(takers[i] + ": the tape is used up", Seen.tape(x), 0);
        }
    }
}
