/** Promises 36 to 39: small, putSmall, refuted, shrink. */
public final class SmallTest {
    private static final Check C = new Check();

    /** All small values with so many nodes, in their order. */
    private static void all(String schema, int nodes, String... due) {
        ShapeLang x = new ShapeLang();
        Check.begin(x, schema);
        C.is("P36 " + schema + " " + nodes, x.small(0, 0, nodes), due.length);
        for (int i = 0; i < due.length; i++) {
            C.is("P37 bytes", x.putSmall(0, 0, nodes, i, 5), due[i].length());
            C.is("P37 " + i + " of " + schema, Check.show(x, 5), due[i]);
        }
        C.noSuch("P37 behind the last", () -> x.putSmall(0, 0, nodes, due.length, 5));
    }

    private static void refuted(String one, String other, int nodes, int due) {
        ShapeLang x = new ShapeLang();
        Check.begin(x, one);
        Check.begin(x, other);
        C.is("P38 " + one + " " + other + " " + nodes, x.refuted(0, 0, 1, 0, nodes), due);
    }

    private static void shrink(String one, String other, String value, int times, String due) {
        ShapeLang x = new ShapeLang();
        Check.begin(x, one);
        Check.begin(x, other);
        Check.put(x, 3, value);
        C.is("P39 times " + value, x.shrink(0, 0, 1, 0, 3), times);
        C.is("P39 " + value, Check.show(x, 3), due);
    }

    public static void main(String[] args) {
        all("R=num|text|[@R]|{}|A(@R)|<@R>;", 1, "0", "1", "-1", "''", "'a'", "[]", "{}", "<>");
        all("R=num(0..5)|text(a.*);", 1, "0", "1", "'a'");
        all("R=num|none;", 2);
        all("R=[num(0..1)];", 2, "[0]", "[1]");
        all("R=[num(0..1)];", 3, "[0,0]", "[0,1]", "[1,0]", "[1,1]");
        all("R=[[num(1..9);1..8]|text(a)];", 3, "[[1]]", "['a','a']");
        all("R={a?:num(0..1),bb?:num(0..0),c?:text(a)};", 2, "{a:0}", "{a:1}", "{c:'a'}", "{bb:0}");
        all("R={a?:num(0..1),bb?:num(0..0),c?:text(a)};", 3, "{a:0,c:'a'}", "{a:0,bb:0}", "{a:1,c:'a'}", "{a:1,bb:0}", "{c:'a',bb:0}");
        all("R=B(num(0..0))|A(num(0..0)|[none])|Aa(num(1..1));", 2, "A(0)", "A([])", "B(0)", "Aa(1)");
        all("R=<num(0..0)>;", 2, "<'a':0>", "<'b':0>");
        all("R=<num(0..1)>;", 3, "<'a':0,'b':0>", "<'a':0,'b':1>", "<'a':1,'b':0>", "<'a':1,'b':1>");
        all("R=<[none]|<num(0..0)>>;", 3, "<'a':<'a':0>>", "<'a':<'b':0>>", "<'b':<'a':0>>", "<'b':<'b':0>>", "<'a':[],'b':[]>", "<'a':[],'b':<>>", "<'a':<>,'b':[]>", "<'a':<>,'b':<>>");
        all("R=num|num(0..0);", 1, "0", "1", "-1");
        all("R=@S;S=A(@S)|num(1..1);", 3, "A(A(1))");
        refuted("R=num;", "R=num(0..0);", 1, 2);
        refuted("R=num;", "R=num;", 3, 0);
        refuted("R=[num];", "R=[num(0..0)];", 1, 0);
        refuted("R=[num];", "R=[num(0..0)];", 2, 2);
        refuted("R=[num];", "R=[num(0..0)];", 3, 10);
        refuted("R=[num]|num;", "R=[num;1..8];", 2, 4);
        shrink("R=num;", "R=num(0..9);", "100", 5, "10");
        shrink("R=num;", "R=num(-9..9999);", "-100", 5, "-10");
        shrink("R=num;", "R=none;", "100", 1, "0");
        shrink("R=num;", "R=num(-3..50);", "9999", 20, "65");
        shrink("R=text;", "R=text(a*);", "'aabaa'", 4, "'b'");
        shrink("R=[num];", "R=[num(0..5)];", "[3,9,4]", 5, "[6]");
        shrink("R=[num]|num;", "R=[num(0..5)];", "[3,9,4]", 2, "0");
        shrink("R={a?:num,b?:num};", "R={a?:num};", "{a:5,b:7}", 2, "{b:0}");
        shrink("R=<num>;", "R=<num(0..0)>;", "<'a':3,'b':0>", 2, "<'a':1>");
        shrink("R=A(@R)|num;", "R=num;", "A(A(A(9)))", 2, "A(0)");
        // not more than 20 times
        shrink("R=num(100..9999);", "R=none;", "200", 1, "100");
        shrink("R=num(101..9999);", "R=none;", "140", 20, "120");
        shrink("R=num(1..1)|num(5..5);", "R=none;", "5", 0, "5");
        calls();
        C.end("SmallTest");
    }

    private static void calls() {
        ShapeLang x = new ShapeLang();
        Check.begin(x, "R=num;S=num(0..5);");
        Check.put(x, 0, "3");
        Check.put(x, 1, "9");
        C.noSuch("P36 version", () -> x.small(1, 0, 0));
        C.noSuch("P36 definition", () -> x.small(0, 2, 0));
        C.noArgument("P36 nodes 0", () -> x.small(0, 0, 0));
        C.noArgument("P36 nodes 4", () -> x.small(0, 0, 4));
        C.noSuch("P37 version", () -> x.putSmall(1, 0, 1, 0, 0));
        C.noSuch("P37 definition", () -> x.putSmall(0, 2, 1, 0, 0));
        C.noSuch("P37 slot", () -> x.putSmall(0, 0, 0, 0, 8));
        C.noSuch("P37 place below 0 ahead of nodes", () -> x.putSmall(0, 0, 0, -1, 0));
        C.noArgument("P37 nodes ahead of a place", () -> x.putSmall(0, 0, 4, 99, 0));
        C.noSuch("P37 place", () -> x.putSmall(0, 0, 1, 3, 0));
        C.noSuch("P37 far place", () -> x.putSmall(0, 0, 1, Integer.MAX_VALUE, 0));
        C.is("P37 the slot stays", Check.show(x, 0), "3");
        x.show(1);
        C.is("P37 bytes", x.putSmall(0, 0, 1, 2, 2), 2);
        C.is("P37 the out stays", Check.out(x), "9");
        C.noSuch("P38 version", () -> x.refuted(0, 0, 1, 0, 0));
        C.noSuch("P38 definition", () -> x.refuted(0, 0, 0, 2, 0));
        C.noArgument("P38 nodes 0", () -> x.refuted(0, 0, 0, 1, 0));
        C.noArgument("P38 nodes 4", () -> x.refuted(0, 0, 0, 1, 4));
        C.is("P38 in one version", x.refuted(0, 0, 0, 1, 1), 1);
        C.noSuch("P39 version", () -> x.shrink(0, 0, 1, 0, 1));
        C.noSuch("P39 definition", () -> x.shrink(0, 0, 0, 2, 1));
        C.noSuch("P39 slot", () -> x.shrink(0, 0, 0, 1, 8));
        C.noState("P39 empty", () -> x.shrink(0, 0, 0, 1, 7));
        C.noState("P39 of the second one", () -> x.shrink(0, 0, 0, 1, 0));
        C.noState("P39 not of the first one", () -> x.shrink(0, 1, 0, 1, 1));
        C.is("P39 in one version", x.shrink(0, 0, 0, 1, 1), 3);
        C.is("P39 its value", Check.show(x, 1), "6");
    }
}
