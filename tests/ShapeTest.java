/** Promises 17 to 21: isOf, witness, common, least, infer. */
public final class ShapeTest {
    private static final Check C = new Check();

    private static void of(String schema, String value, int due) {
        ShapeLang x = new ShapeLang();
        Check.begin(x, schema);
        Check.put(x, 4, value);
        C.is("P17 " + value + " of " + schema, x.isOf(0, 0, 4) ? 1 : 0, due);
    }

    /** The out must be the text with these nodes; an empty text stands for none. */
    private static void told(String what, ShapeLang x, int nodes, String due) {
        C.is(what, Check.out(x), due);
        int want = ShapeLang.NONE;
        if (!due.isEmpty()) {
            want = Check.put(x, 0, due);
        }
        C.is(what + " nodes", nodes, want);
    }

    private static void witness(String one, String other, String due) {
        ShapeLang x = new ShapeLang();
        Check.begin(x, one);
        Check.begin(x, other);
        told("P18 " + one + " in " + other, x, x.witness(0, 0, 1, 0), due);
    }

    /** The witness is 0 in so many lists: more than a slot could hold. */
    private static void deepWitness(String one, String other, int lists) {
        ShapeLang x = new ShapeLang();
        Check.begin(x, one);
        Check.begin(x, other);
        C.is("P18 nodes of a deep one", x.witness(0, 0, 1, 0), lists + 1);
        C.is("P18 a deep one", Check.out(x), "[".repeat(lists) + "0" + "]".repeat(lists));
    }

    private static void common(String one, String other, String due) {
        ShapeLang x = new ShapeLang();
        Check.begin(x, one);
        Check.begin(x, other);
        told("P19 " + one + " and " + other, x, x.common(0, 0, 1, 0), due);
        told("P19 the other way " + one + " and " + other, x, x.common(1, 0, 0, 0), due);
    }

    private static void least(String schema, String due) {
        ShapeLang x = new ShapeLang();
        Check.begin(x, schema);
        told("P20 " + schema, x, x.least(0, 0), due);
    }

    private static void infer(int growth, String due, String... values) {
        ShapeLang x = new ShapeLang();
        int slots = 0;
        for (int i = 0; i < values.length; i++) {
            Check.put(x, i, values[i]);
            slots |= 1 << i;
        }
        String what = "P21 " + String.join(" ", values) + " " + growth;
        if (due.isEmpty()) {
            int all = slots;
            C.noState(what, () -> x.infer(all, growth));
            C.is(what + " begins nothing", x.versions(), 0);
        } else {
            C.is(what, x.infer(slots, growth), 0);
            C.is(what, Check.schema(x, 0), "V=" + due + ";");
            C.is(what + " has no parent", x.parent(0), ShapeLang.NONE);
            // records with many names become maps, of which they are not
            for (int i = 0; i < values.length && !due.startsWith("<"); i++) {
                C.is(what + " is of it", x.isOf(0, 0, i) ? 1 : 0, 1);
            }
        }
    }

    public static void main(String[] args) {
        members();
        witnesses();
        inferences();
        calls();
        C.end("ShapeTest");
    }

    private static void members() {
        of("R=none;", "0", 0);
        of("R=num;", "-9999", 1);
        of("R=num(-3..3);", "3", 1);
        of("R=num(-3..3);", "-4", 0);
        of("R=num;", "''", 0);
        of("R=text;", "''", 1);
        of("R=text(ab*.?);", "'a'", 1);
        of("R=text(ab*.?);", "'abbbbx'", 1);
        of("R=text(ab*.?);", "'abxx'", 0);
        of("R=text(ab*.?);", "''", 0);
        of("R=text(.*);", "'abcdefgh'", 1);
        of("R=text(a?.*a);", "'a'", 1);
        of("R=[num;1..2];", "[]", 0);
        of("R=[num;1..2];", "[1,2]", 1);
        of("R=[num;1..2];", "[1,2,3]", 0);
        of("R=[num];", "[1,'']", 0);
        of("R={a:num,b?:text};", "{a:1}", 1);
        of("R={a:num,b?:text};", "{a:1,b:''}", 1);
        of("R={a:num,b?:text};", "{b:''}", 0);
        of("R={a:num,b?:text};", "{a:1,b:2}", 0);
        of("R={a:num,b?:text};", "{a:1,c:2}", 0);
        of("R=A(num)|A(text);", "A('')", 1);
        of("R=A(num)|B(text);", "A('')", 0);
        of("R=<num>;", "<>", 1);
        of("R=<num>;", "<'a':1,'b':''>", 0);
        of("R=@S;S=A(@S)|num;", "A(A(A(3)))", 1);
        of("R=@S;S=A(@S)|num;", "A(A(A('')))", 0);
        of("R=[num]|[text];", "[1,'']", 0);
    }

    private static void witnesses() {
        witness("R=num;", "R=num;", "");
        witness("R=num;", "R=num(0..9999);", "-1");
        witness("R=num;", "R=num(-5..5);", "6");
        witness("R=num;", "R=num(-5..6);", "-6");
        witness("R=num(0..9);", "R=num(0..4)|num(5..9);", "");
        witness("R=num|text;", "R=num;", "''");
        witness("R=text;", "R=text(a*);", "'b'");
        witness("R=text;", "R=text(.?.?)|text(.?);", "'aaa'");
        witness("R=text(..);", "R=text(a.)|text(.a);", "'bb'");
        witness("R=[num];", "R=[num(0..0)];", "[1]");
        witness("R=[num];", "R=[num;0..2];", "[0,0,0]");
        witness("R=[num];", "R=[num;1..8];", "[]");
        witness("R=[num;2..2];", "R=[num(0..5)]|[num(3..9)];", "[0,-1]");
        witness("R=[num(0..9);2..2];", "R=[num(0..5)]|[num(3..9)];", "[0,6]");
        witness("R={a:num,b?:num};", "R={a:num};", "{a:0,b:0}");
        witness("R={a:num,b?:num};", "R={a:num,b:num};", "{a:0}");
        witness("R={a:num,b:num};", "R={a:num(0..9),b:num}|{a:num,b:num(0..9)};", "{a:-1,b:-1}");
        witness("R={a:num(0..9),b?:text};", "R={a:num(0..3),b?:text}|{a:num(2..8),b?:text};", "{a:9}");
        witness("R=A(num)|B(num);", "R=A(num);", "B(0)");
        witness("R=A([num]);", "R=A([num;0..1])|A([num;2..8]);", "");
        witness("R=<num>;", "R=<num(0..0)>;", "<'':1>");
        witness("R=<num>;", "R=<num(0..5)>|<num(-5..0)>;", "<'':6>");
        witness("R=<num(-5..5)>;", "R=<num(0..5)>|<num(-5..0)>;", "<'':1,'a':-1>");
        witness("R=[@R]|num;", "R=[[[num|@R]|num]|num]|num;", "");
        witness("R=[@R]|num;", "R=[[[num]|num]|num]|num;", "[[[[]]]]");
        witness("R=none;", "R=none;", "");
        witness("R={a:none}|num(7..7);", "R=none;", "7");
        // the least value has 61 nodes, so it does not count
        witness("R=[[num;7..7];7..7]|[[num(0..0);8..8];2..2];", "R=num;", "[[0,0,0,0,0,0,0,0],[0,0,0,0,0,0,0,0]]");
        witness("R={a:[num;8..8],b:[num;8..8],c:[num;8..8],d:[num;8..8],e:[num;8..8],f:[num;8..8]};", "R=num;", "{a:[0,0,0,0,0,0,0,0],b:[0,0,0,0,0,0,0,0],c:[0,0,0,0,0,0,0,0],d:[0,0,0,0,0,0,0,0],e:[0,0,0,0,0,0,0,0],f:[0,0,0,0,0,0,0,0]}");
        witness("R={a:[num;8..8],b:[num;8..8],c:[num;8..8],d:[num;8..8],e:[num;8..8],f:[[num;4..4];1..1]};", "R=num;", "{a:[0,0,0,0,0,0,0,0],b:[0,0,0,0,0,0,0,0],c:[0,0,0,0,0,0,0,0],d:[0,0,0,0,0,0,0,0],e:[0,0,0,0,0,0,0,0],f:[[0,0,0,0]]}");
        least("R={a:[num;8..8],b:[num;8..8],c:[num;8..8],d:[num;8..8],e:[num;8..8],f:[[num;8..8];2..2]};", "");
        // 59 deep: 2 and some 3 lists, but not 4 and 5 less one
        String cycles = "R=@S|@T;S=num|[num|[num|[[@S]]]];T=num|[num|[num|[num|[[@T]]]]];";
        deepWitness("R=[[@S;1..1];1..1];S=num(0..0)|[[[@S;1..1];1..1];1..1];", cycles, 59);
        deepWitness("R=[@S;1..1];S=num(0..0)|[[[@S;1..1];1..1];1..1];", cycles, 19);
        common("R=num(0..5);", "R=num(4..9);", "4");
        common("R=num(-5..5);", "R=num(-9..-4);", "-4");
        common("R=num(0..5);", "R=num(6..9);", "");
        common("R=text(a.*);", "R=text(.*b.);", "'aba'");
        common("R=text(a*);", "R=text(b*);", "''");
        common("R=[num;1..8];", "R=[text;0..8];", "");
        common("R=[num];", "R=[text];", "[]");
        common("R={a:num,b?:num};", "R={a:num,c?:num};", "{a:0}");
        common("R={a:num,b:num};", "R={a:num,c?:num};", "");
        common("R=A(num(3..9))|A(text);", "R=A(num(0..4)|text(b));", "A(3)");
        common("R=<num(1..5)>;", "R=<num(5..9)>;", "<>");
        least("R=none;", "");
        least("R=num(-9..-4);", "-4");
        least("R=num(-9..-4)|text(x.);", "-4");
        least("R=text(x.);", "'xa'");
        least("R=text(x?..*);", "'a'");
        least("R=[num;3..4];", "[0,0,0]");
        least("R={b:num,a?:num,c:text(zz)};", "{b:0,c:'zz'}");
        least("R=A([num;1..1])|B(num);", "B(0)");
        least("R=@S|@T;S=[@S;1..8]|{a:@T};T={b:@S,c:@T}|Q(num);", "Q(0)");
        least("R=[@R;1..8];", "");
        least("R=<none>;", "<>");
    }

    private static void inferences() {
        infer(1, "num(-3..7)", "7", "-3", "0");
        infer(1, "num", "-9999", "9999");
        infer(1, "text(ab)", "'ab'", "'ab'");
        infer(1, "text", "'ab'", "'b'");
        infer(2, "text(b)|text(ab)", "'ab'", "'b'");
        infer(4, "text", "'ab'", "''");
        infer(1, "[none;0..0]", "[]");
        infer(1, "[num(1..2);0..2]", "[]", "[1,2]");
        infer(1, "{}", "{}");
        infer(1, "{a?:num(1..1),b:text(x)}", "{a:1,b:'x'}", "{b:'x'}");
        infer(1, "<num(1..7)>", "{a:1,b:2,c:3,d:4}", "{e:5,f:6,g:7}");
        infer(1, "<num(1..7)|text>", "{a:1,b:2,c:3,d:4,e:5,f:6,g:7}", "<'x':'y','z':''>");
        infer(1, "A(num(1..1)|text(a))|B([none;0..0])", "B([])", "A(1)", "A('a')");
        infer(1, "<none>", "<>");
        infer(2, "num(1..1)|text(a)|text(b)|[none;0..0]|{}|A(num(1..1))", "1", "'a'", "'b'", "[]", "{}", "A(1)");
        infer(2, "num(1..1)|text|[none;0..0]|{}|A(num(1..1))|<none>", "1", "'a'", "'b'", "[]", "{}", "A(1)", "<>");
        infer(1, "", "1", "'a'", "[]", "{}", "A(1)", "B(1)", "<>");
        infer(1, "", "[[1,'a',[],{},A(1),B(1),<>]]");
        infer(1, "[".repeat(11) + "num(5..5)" + ";1..1]".repeat(11), "[".repeat(11) + "5" + "]".repeat(11));
        // num( would stand inside 12 brackets
        infer(1, "", "[".repeat(12) + "5" + "]".repeat(12));
        infer(1, "", "{a:{a:1,b:2,c:3},b:{a:1,b:2,c:3},c:{a:1,b:2,c:3},d:{a:1,b:2,c:3},e:{a:1,b:2,c:3},f:{a:1,b:2,c:3,d:1}}");
    }

    private static void calls() {
        ShapeLang x = new ShapeLang();
        Check.begin(x, "R={a:num};S=num;");
        C.noSuch("P17 version", () -> x.isOf(1, 0, 0) ? 1 : 0);
        C.noSuch("P17 definition", () -> x.isOf(0, 2, 0) ? 1 : 0);
        C.noSuch("P17 slot", () -> x.isOf(0, 0, 8) ? 1 : 0);
        C.noState("P17 empty", () -> x.isOf(0, 0, 0) ? 1 : 0);
        C.noSuch("P18 version", () -> x.witness(0, 0, 1, 0));
        C.noSuch("P18 definition", () -> x.witness(0, 2, 0, 0));
        C.noSuch("P19 version", () -> x.common(-1, 0, 0, 0));
        C.noSuch("P19 definition", () -> x.common(0, 0, 0, -1));
        C.noSuch("P20 version", () -> x.least(1, 0));
        C.noSuch("P20 definition", () -> x.least(0, 2));
        C.is("P18 other definition", x.witness(0, 1, 0, 0), 1);
        C.is("P18 its text", Check.out(x), "0");
        C.is("P18 part", x.witness(0, 1, 0, 1), ShapeLang.NONE);
        C.is("P18 the out is empty", x.length(), 0);
        C.noArgument("P21 slots below 0", () -> x.infer(-1, 1));
        C.noArgument("P21 slots 256", () -> x.infer(256, 1));
        C.noArgument("P21 growth 0", () -> x.infer(0, 0));
        C.noArgument("P21 growth 5", () -> x.infer(0, 5));
        Check.put(x, 1, "5");
        C.is("P21 empty slots are left out", x.infer(255, 1), 1);
        C.is("P21 its schema", Check.schema(x, 1), "V=num(5..5);");
        C.is("P21 no bit", x.infer(1, 1), 2);
        C.is("P21 no samples", Check.schema(x, 2), "V=none;");
        for (int v = 3; v < 12; v++) {
            x.infer(2, 1);
        }
        C.noState("P21 the 13th", () -> x.infer(2, 1));
        C.noArgument("P21 the arguments first", () -> x.infer(2, 9));
    }
}
