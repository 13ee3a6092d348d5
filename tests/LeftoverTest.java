/** What a call leaves behind inside, also one that throws, does not show in those that follow it. */
public final class LeftoverTest {
    private static final Check C = new Check();

    public static void main(String[] args) {
        faults();
        results();
        regions();
        chains();
        names();
        paths();
        ways();
        slots();
        forms();
        smallOnes();
        inferences();
        manyCalls();
        C.end("LeftoverTest");
    }

    /** A text is read the same, whatever fault the one ahead of it had. */
    private static void faults() {
        String deep = "[".repeat(12) + "5" + "]".repeat(12);
        String wide = "[" + "[0,0,0,0,0,0,0],".repeat(7) + "[0,0]]";
        String[] ahead = {"[[[[[[[", "[1,2,x", "{a:[{b:", "T(T(T(", "<'a':<'b':", "[1,2,3,4,5,6,7,8,9]", "{b:1,a:1}", "[" + "[0,0,0,0,0,0,0],".repeat(7) + "[0,0,0]]", deep.replace("5", "[]"), "'abcdefghi'"};
        String[] schemas = {"R={a:{b:{c:", "R=num|num|text|[num|", "R=num|num|num|num|num|num|num;", "R={a:num,a:num};", "R=[num;0..9];", "R=text(a*bcd);", "R=@R;", "R=" + "[".repeat(13),
            "R=num(3..2);", "A=num;B=num;C=num;D=num;E=num;", "R={a:num,b:num,c:num,d:num,e:num,f:num,g:", "R=[num]|[num]|[num];"};
        String[] paths = {".a.a.a.a.a.a.a.a.a", "[][", ".a!", "!"};
        String[] changes = {"b:num=(1+(2*(", "b:num=(1+1+1+1+1)", "b:{x:{y:", "b:num=[[[", "b:num(2..1)=0", "b:num=1,c:num=(a", "b:num={b:1,a:1}"};
        ShapeLang x = new ShapeLang();
        Check.begin(x, "R={a:@R|num};");
        for (int i = 0; i < 12; i++) {
            Check.feed(x, i < ahead.length ? ahead[i] : "");
            C.noState("a value with a fault", () -> x.put(0));
            C.is("a deep value behind it", Check.put(x, 0, deep), 13);
            Check.feed(x, schemas[i]);
            C.noState("a schema with a fault", x::begin);
            C.is("a wide value behind it", Check.put(x, 0, wide), 60);
            Check.feed(x, paths[i % 4]);
            C.noState("a path with a fault", () -> x.shapeOf(0));
            Check.feed(x, ".a.a.a.a.a.a.a.a");
            C.is("a path behind it", x.shapeOf(0), 6);
            C.is("its shape", Check.out(x), "@R|num");
        }
        for (String change : changes) {
            ShapeLang y = new ShapeLang();
            Check.begin(y, "R={a:num};");
            Check.feed(y, change);
            C.noState("a change with a fault", () -> y.change(0, ShapeLang.ADD, 0, 0));
            C.is("a value behind it", Check.put(y, 0, deep), 13);
            Check.feed(y, change);
            C.noState("a change with a fault", () -> y.change(0, ShapeLang.ADD, 0, 0));
            C.is("a change behind it", Check.change(y, 0, ShapeLang.ADD, 0, 0, "b:num=(a+1*(2-a))"), 1);
            C.is("its schema", Check.schema(y, 1), "R={a:num,b:num};");
        }
        ShapeLang z = new ShapeLang();
        for (int i = 0; i < 40; i++) {
            Check.feed(z, "R={a:text(abcdefgh),b:text(abcdefgh),c:[num;0..9]};");
            C.noState("a schema with a fault", z::begin);
        }
        C.is("a schema behind many with faults", Check.begin(z, "R={a:text(abcdefgh),b:text(hgfedcba)};"), 0);
        C.is("its text", Check.schema(z, 0), "R={a:text(abcdefgh),b:text(hgfedcba)};");
        for (String schema : schemas) {
            ShapeLang y = new ShapeLang();
            Check.feed(y, schema);
            C.noState("a schema with a fault", y::begin);
            String good = "R=" + "[".repeat(11) + "num(0..1)" + "]".repeat(11) + ";S={a:text(a*bc),b?:@R};";
            C.is("a schema behind it", Check.begin(y, good), 0);
            C.is("its text", Check.schema(y, 0), good);
        }
    }

    /** Results are kept over all calls but a query that does not throw. */
    private static void results() {
        ShapeLang x = new ShapeLang();
        Check.begin(x, "R={a:[num],b?:num};S=num(0..9)|[num];");
        Check.put(x, 0, "{a:[7,8,9],b:5}");
        Check.feed(x, ".a");
        x.query(0, 0);
        Check.put(x, 1, "[5,6,7]");
        x.shrink(0, 1, 0, 0, 1);
        x.putSmall(0, 0, 3, 0, 2);
        x.small(0, 1, 3);
        x.refuted(0, 0, 0, 1, 3);
        x.convert(0, 0, 0, 3);
        x.write(0, 0);
        x.read(0, 0, 4);
        x.witness(0, 0, 0, 1);
        x.infer(255, 4);
        Check.change(x, 0, ShapeLang.DROP, 0, 0, "b=4");
        x.move(2, 12);
        Check.begin(x, "R=num;");
        x.clear(0);
        C.is("P27 it is kept", x.result(0), 7);
        C.is("P27 its text", Check.out(x), "[7,8,9]");
    }

    /** 12 documents, 8 slots and the defaults of versions lie side by side. */
    private static void regions() {
        ShapeLang x = new ShapeLang();
        Check.begin(x, "R=@S|[@R]|num;S={a?:num};");
        Check.change(x, 0, ShapeLang.ADD, 1, 0, "b:[num]=[1,2,3],c:num=4,d:[num]=[5,6],e:text='e',f:<num>=<'k':7>");
        Check.put(x, 7, "[" + "[1,1,1,1,1,1,1],".repeat(7) + "[2,2]]");
        for (int d = 0; d < 12; d++) {
            Check.put(x, 0, "[" + "[0,0,0,0,0,0,0],".repeat(7) + "[0," + d + "]]");
            x.write(0, 0);
        }
        Check.put(x, 1, "[[9,8,7],[{a:5}]]");
        x.shrink(0, 0, 1, 1, 1);
        x.putSmall(0, 0, 3, 0, 2);
        Check.feed(x, "[][]");
        x.query(0, 7);
        for (int d = 0; d < 12; d++) {
            x.read(d, 0, 3);
            C.is("P31 document " + d, Check.show(x, 3), "[" + "[0,0,0,0,0,0,0],".repeat(7) + "[0," + d + "]]");
        }
        C.is("P8 the last slot", Check.show(x, 7), "[" + "[1,1,1,1,1,1,1],".repeat(7) + "[2,2]]");
        Check.put(x, 0, "{}");
        x.convert(0, 1, 0, 1);
        C.is("P22 the defaults", Check.show(x, 1), "{b:[1,2,3],c:4,d:[5,6],e:'e',f:<'k':7>}");
    }

    /** Each version has its own defaults and least values. */
    private static void chains() {
        ShapeLang x = new ShapeLang();
        Check.begin(x, "R={a:num(11..11)|text,b:num(12..12)|text,c:num(13..13)|text};");
        Check.change(x, 0, ShapeLang.RETYPE, 0, 0, "a:[num;1..1]=[21]");
        Check.change(x, 1, ShapeLang.RETYPE, 0, 0, "b:[num;1..1]=[22]");
        Check.change(x, 2, ShapeLang.ADD, 0, 0, "d:num=31,e:num=32,f:num=33");
        Check.change(x, 3, ShapeLang.RETYPE, 0, 0, "c:[num;1..1]=[23]");
        Check.change(x, 4, ShapeLang.DROP, 0, 0, "e=44");
        Check.change(x, 5, ShapeLang.RETYPE, 0, 0, "a:<num>=<'x':24>");
        Check.change(x, 6, ShapeLang.ADD, 0, 0, "g:num=51");
        Check.change(x, 7, ShapeLang.RETYPE, 0, 0, "a:num(61..62)=62");
        Check.change(x, 8, ShapeLang.RELAX, 0, 0, "b");
        Check.change(x, 9, ShapeLang.REQUIRE, 0, 0, "b=[71]");
        Check.change(x, 10, ShapeLang.DROP, 0, 0, "c=[81]");
        Check.put(x, 0, "{a:11,b:'b',c:13}");
        x.convert(0, 11, 0, 1);
        C.is("P22 forward", Check.show(x, 1), "{a:62,b:[22],d:31,f:33,g:51}");
        x.convert(11, 0, 1, 2);
        C.is("P22 backward", Check.show(x, 2), "{a:11,b:12,c:13}");
        String[] due = {"{a:11,b:12,c:13}", "{a:[0],b:12,c:13}", "{a:[0],b:[22],c:13}", "{a:[0],b:[22],c:13,d:31,e:44,f:33}", "{a:[0],b:[22],c:[81],d:31,e:44,f:33}",
            "{a:[0],b:[22],c:[81],d:31,f:33}", "{a:<>,b:[22],c:[81],d:31,f:33}", "{a:<>,b:[22],c:[81],d:31,f:33,g:51}", "{a:62,b:[22],c:[81],d:31,f:33,g:51}"};
        for (int v = 0; v < due.length; v++) {
            x.convert(11, v, 1, 2);
            C.is("P22 backward to " + v, Check.show(x, 2), due[v]);
        }
        ShapeLang y = new ShapeLang();
        Check.begin(y, "R={};");
        Check.change(y, 0, ShapeLang.ADD, 0, 0, "f:num=6,e:num=5,d:num=4,c:num=3,b:num=2,a:num=1");
        Check.change(y, 0, ShapeLang.ADD, 0, 0, "a:num=11,b:num=12,c:num=13,d:num=14,e:num=15,f:num=16");
        Check.change(y, 0, ShapeLang.ADD, 0, 0, "a:[num]=[1],b:[num]=[2],c:[num]=[3],d:[num]=[4],e:[num]=[5],f:[num]=[6]");
        Check.put(y, 0, "{}");
        String[] told = {"{a:1,b:2,c:3,d:4,e:5,f:6}", "{a:11,b:12,c:13,d:14,e:15,f:16}", "{a:[1],b:[2],c:[3],d:[4],e:[5],f:[6]}"};
        for (int v = 1; v <= 3; v++) {
            y.convert(0, v, 0, 1);
            C.is("P22 six defaults", Check.show(y, 1), told[v - 1]);
        }
    }

    /** Names and sums of a change that was refused. */
    private static void names() {
        ShapeLang x = new ShapeLang();
        Check.begin(x, "R={a:num,z:num};");
        Check.feed(x, "b:num=0,c:num=0,a:num=0");
        C.noState("P11 a is there", () -> x.change(0, ShapeLang.ADD, 0, 0));
        Check.change(x, 0, ShapeLang.ADD, 0, 0, "b:num=0,c:num=0");
        Check.put(x, 0, "{a:1,b:2,c:3,z:4}");
        x.convert(1, 0, 0, 1);
        C.is("P22 only those that it tells", Check.show(x, 1), "{a:1,z:4}");
        Check.feed(x, "b:num=(a),c:num=(b),z:num=(c)");
        C.noState("P11 z is there", () -> x.change(0, ShapeLang.ADD, 0, 0));
        Check.change(x, 0, ShapeLang.RELAX, 0, 0, "a");
        Check.feed(x, "q,a");
        C.noState("P11 q is not there", () -> x.change(0, ShapeLang.RENAME, 0, 0));
        Check.change(x, 0, ShapeLang.WRAP, 0, 0, "z,T");
        C.is("P34 names of the one that was refused do not count", x.conflicts(2, 3), 0);
        C.is("P34 nor the other way", x.conflicts(3, 2), 0);
        Check.feed(x, "b:num=(q)");
        C.noState("P11 q is not there", () -> x.change(0, ShapeLang.ADD, 0, 0));
        Check.change(x, 0, ShapeLang.RELAX, 0, 0, "z");
        Check.feed(x, "b:num=(q)");
        C.noState("P11 q is not there", () -> x.change(0, ShapeLang.ADD, 0, 0));
        Check.change(x, 0, ShapeLang.ADD, 0, 0, "b:num=7");
        x.convert(0, 5, 1, 2);
        C.is("P22 a value and not the sum", Check.show(x, 2), "{a:1,b:7,z:4}");
        Check.feed(x, "a:T(num)=(1)");
        C.noState("P11 a is not of it", () -> x.change(0, ShapeLang.RETYPE, 0, 0) - x.change(0, ShapeLang.UNWRAP, 0, 0));
        int unwrapped = Check.change(x, 3, ShapeLang.UNWRAP, 0, 0, "z");
        Check.put(x, 3, "{a:1,z:T(4)}");
        x.convert(3, unwrapped, 3, 4);
        C.is("P22 UNWRAP", Check.show(x, 4), "{a:1,z:4}");
        x.convert(unwrapped, 3, 4, 5);
        C.is("P22 UNWRAP back", Check.show(x, 5), "{a:1,z:T(4)}");
    }

    /** Shapes and steps of the path ahead. */
    private static void paths() {
        ShapeLang x = new ShapeLang();
        Check.begin(x, "R={a:[num]}|{a:{z:text}};");
        Check.feed(x, ".a");
        C.is("P28 two shapes", x.shapeOf(0), 14);
        Check.feed(x, ".z");
        C.noState("P28 not from the second one", () -> x.shapeOf(0));
        Check.feed(x, ".a");
        x.shapeOf(0);
        Check.feed(x, "[]");
        C.noState("P28 not from the first one", () -> x.shapeOf(0));
        ShapeLang y = new ShapeLang();
        Check.begin(y, "R={r:{f:num,g:num},a:T(num)};");
        Check.change(y, 0, ShapeLang.LIFT, 0, 0, "r,f");
        Check.change(y, 0, ShapeLang.UNWRAP, 0, 0, "a");
        String[] paths = {".r.f", ".r", ".a!T", ".a", ".r.g"};
        String[] lifted = {".f", ".r", ".a!T", ".a", ".r.g"};
        String[] unwrapped = {".r.f", ".r", ".a", ".a", ".r.g"};
        for (int i = 0; i < paths.length * paths.length; i++) {
            int k = i % 2 == 0 ? i / 2 % paths.length : i % paths.length;
            Check.feed(y, paths[k]);
            y.rewrite(0, 1);
            C.is("P29 LIFT of " + paths[k], Check.out(y), lifted[k]);
            Check.feed(y, paths[k]);
            y.rewrite(0, 2);
            C.is("P29 UNWRAP of " + paths[k], Check.out(y), unwrapped[k]);
        }
        Check.put(y, 0, "{a:T(1),r:{f:2,g:3}}");
        Check.feed(y, ".r.f");
        C.is("P26 one", y.query(0, 0), 1);
        Check.feed(y, ".r");
        C.is("P26 one step", y.query(0, 0), 1);
        y.result(0);
        C.is("P27 its text", Check.out(y), "{f:2,g:3}");
    }

    /** A longer way ahead of a shorter one. */
    private static void ways() {
        ShapeLang x = new ShapeLang();
        Check.begin(x, "R=num|@S|[@R];S={a:num};");
        C.is("P32 no documents", x.move(0, 12), 0);
        int a = 0;
        int b = 0;
        for (int i = 0; i < 3; i++) {
            a = Check.change(x, a, ShapeLang.WRAP, 1, 0, "a,A");
            b = Check.change(x, b, ShapeLang.WRAP, 1, 0, "a,B");
        }
        C.is("P34 three", x.conflicts(a, b), 3);
        C.is("P34 one of the shorter way", x.conflicts(1, 2), 1);
        C.is("P34 of no way", x.conflicts(a, 0), 0);
        C.is("P34 of no other way", x.conflicts(0, b), 0);
        C.is("P34 three again", x.conflicts(1, b), 3);
        C.is("P34 one again", x.conflicts(a, 2), 1);
        C.is("P23 six", x.losses(a, b), 0);
        C.is("P32 no documents, another version", x.move(1, 12), 0);
        Check.put(x, 0, "5");
        x.write(0, 0);
        C.is("P32 one of one", x.move(1, 12), 1);
        C.is("P32 none of one", x.move(1, 12), 0);
        C.is("P35 after conflicts", x.merge(0, 2), 7);
        C.is("P35 one version", x.versions(), 8);
    }

    /** A slot that was emptied, and one that is filled again with something smaller. */
    private static void slots() {
        ShapeLang x = new ShapeLang();
        Check.begin(x, "R={a:num};");
        Check.put(x, 0, "{a:1}");
        C.is("P7 it had one", x.clear(0) ? 1 : 0, 1);
        C.is("P7 it has none", x.clear(0) ? 1 : 0, 0);
        C.noState("P8 empty", () -> x.show(0));
        C.noState("P9 empty", () -> x.compare(0, 0));
        C.noState("P17 empty", () -> x.isOf(0, 0, 0) ? 1 : 0);
        C.noState("P22 empty", () -> x.convert(0, 0, 0, 1));
        C.noState("P24 empty", () -> x.encode(0, 0));
        Check.feed(x, ".a");
        C.noState("P26 empty", () -> x.query(0, 0));
        C.noState("P30 empty", () -> x.write(0, 0));
        C.noState("P39 empty", () -> x.shrink(0, 0, 0, 0, 0));
        C.is("P21 empty", x.infer(1, 1), 1);
        C.is("P21 nothing of it", Check.schema(x, 1), "V=none;");
        Check.put(x, 0, "[[1,2],[3,4]]");
        Check.put(x, 0, "5");
        C.is("P8 the new one", Check.show(x, 0), "5");
        C.is("P7 it had one", x.clear(0) ? 1 : 0, 1);
        for (int s = 1; s < 8; s++) {
            C.is("P7 the others had none", x.clear(s) ? 1 : 0, 0);
        }
        Check.put(x, 3, "3");
        Check.put(x, 4, "4");
        x.clear(3);
        C.is("P8 the next one stays", Check.show(x, 4), "4");
    }

    /** Forms by one version behind those by another one. */
    private static void forms() {
        ShapeLang x = new ShapeLang();
        Check.begin(x, "R=@S;S=num(0..1);");
        Check.begin(x, "R=[@S];S=num(0..255);");
        Check.begin(x, "R=@T;S=text;T=num(0..15);");
        String[] values = {"1", "[255]", "9"};
        String[] bits = {"1", "000111111111", "1001"};
        for (int i = 0; i < 9; i++) {
            int v = i < 6 ? i % 3 : 2 - i % 3;
            Check.put(x, 0, values[v]);
            C.is("P24 bits by " + v, x.encode(v, 0), bits[v].length());
            C.is("P24 by " + v, Check.bits(x, bits[v].length()), bits[v]);
            Check.feedBits(x, bits[(v + 1) % 3]);
            x.decode((v + 1) % 3, bits[(v + 1) % 3].length(), 1);
            C.is("P25 by " + (v + 1) % 3, Check.show(x, 1), values[(v + 1) % 3]);
        }
    }

    /** What was inferred ahead, or was not. */
    private static void inferences() {
        ShapeLang x = new ShapeLang();
        Check.put(x, 0, "{a:[1,'a',{}],b:[1,'a',{}],c:[1,'a',{}],d:[1,'a',{}],e:[1,'a',{}],f:[1,'a']}");
        Check.put(x, 1, "[1,[],{},<>,A(1),B(1),C(1)]");
        Check.put(x, 2, "[[[[[[[[[[[[5]]]]]]]]]]]]");
        for (int i = 0; i < 12; i++) {
            C.noState("P21 too many parts", () -> x.infer(2, 1));
            C.noState("P21 too deep", () -> x.infer(4, 1));
            C.is("P21 24 parts", x.infer(1, 1), i);
            C.is("P14 its bytes", x.schema(i), 181);
        }
        for (int i = 1; i < 12; i++) {
            C.is("P15 the same signature", x.signature(i), x.signature(0));
        }
    }

    /** Small values of one version behind those of another one. */
    private static void smallOnes() {
        ShapeLang x = new ShapeLang();
        Check.begin(x, "R=[@S];S=num(0..0);");
        Check.begin(x, "R={q?:@S};S=num(1..1)|text(a);");
        Check.begin(x, "R=[@T]|@T;S=none;T=num(-1..1);");
        int[] due = {1, 2, 3};
        for (int i = 0; i < 9; i++) {
            int v = i < 6 ? i % 3 : 2 - i % 3;
            C.is("P36 of version " + v, x.small(v, 0, 2), due[v]);
            C.is("P38 of version " + v, x.refuted(v, 0, (v + 1) % 3, 0, 2), v == 0 ? 2 : v == 1 ? 3 : 5);
            x.putSmall(v, 0, 2, due[v] - 1, 0);
            C.is("P37 of version " + v, Check.show(x, 0), v == 0 ? "[0]" : v == 1 ? "{q:'a'}" : "[-1]");
        }
        Check.put(x, 0, "[1]");
        C.is("P39 of two versions", x.shrink(2, 0, 0, 0, 0), 2);
        C.is("P39 what comes of it", Check.show(x, 0), "0");
    }

    /** Calls that build many values answer the same as often as they are made. */
    private static void manyCalls() {
        String schema = "R={a:[@R|text(a.*)]|num(0..9),b?:<@S>,c?:T([num;1..8])|text(.*ab)};S=@R|num|[@S;2..3];";
        String other = "R={a:[@R|text(.b*)]|num(3..99),b?:<@S|text>,c?:T([num;0..7])|text(a*.)};S=@R|num(5..9)|[@S;1..2];";
        for (int kind = 0; kind < 9; kind++) {
            ShapeLang x = new ShapeLang();
            Check.begin(x, schema);
            Check.begin(x, other);
            Check.change(x, 0, ShapeLang.RETYPE, 0, 0, "a:[@R|text]|num(0..5)=5");
            Check.put(x, 0, "{a:9,b:<'x':{a:['ab',{a:3}]},'y':[1,2,{a:8}]>}");
            Check.put(x, 2, "{a:9,b:<'x':{a:['ab',{a:3}]},'y':[1,2,{a:8}]>}");
            x.write(0, 0);
            long first = call(x, kind);
            String out = Check.out(x);
            for (int i = 0; i < 120; i++) {
                C.is("the same answer of " + kind, call(x, kind), first);
            }
            C.is("the same out of " + kind, Check.out(x), out);
        }
    }

    private static long call(ShapeLang x, int kind) {
        switch (kind) {
            case 0: return x.witness(0, 0, 1, 0) * 100L + x.witness(1, 1, 0, 1);
            case 1: return x.common(0, 0, 1, 0) * 100L + x.common(1, 1, 0, 1);
            case 2: return (x.isPlain(0) ? 1 : 0) + (x.isPlain(1) ? 2 : 0);
            case 3: return x.least(0, 0) * 100L + x.least(1, 1);
            case 4: return x.losses(0, 2) * 100L + x.losses(2, 0);
            case 5: return x.small(0, 0, 3) * 1000L + x.refuted(0, 1, 1, 1, 3);
            case 6: return x.convert(0, 2, 0, 1) * 100L + x.read(0, 2, 1);
            case 7: return x.putSmall(0, 1, 1, 2, 3) * 100L + x.move(2, 1) - x.move(0, 1);
            default: return x.convert(0, 0, 2, 4) * 100L + x.shrink(0, 0, 1, 0, 4);
        }
    }
}
