/** The bounds of the sections "Converting" and "Forms", and of the sums and defaults that values are converted with. */
public final class ConvertBoundsTest {
    private static final Check C = new Check();
    private static final String CANNOT = "cannot";

    /** What comes of a value over one change of the first definition, forward or backward. */
    private static String over(String schema, int kind, int n, String text, String value, boolean ahead) {
        ShapeLang x = new ShapeLang();
        Check.begin(x, schema);
        Check.change(x, 0, kind, 0, n, text);
        Check.put(x, 0, value);
        Check.put(x, 7, "'old'");
        try {
            int nodes = ahead ? x.convert(0, 1, 0, 7) : x.convert(1, 0, 0, 7);
            String told = Check.show(x, 7);
            C.is("P22 the slot stays", Check.show(x, 0), value);
            C.is("P22 nodes of " + told, nodes, Check.put(x, 6, told));
            C.is("P9 the same value", x.compare(6, 7), 0);
            return told;
        } catch (IllegalStateException e) {
            C.is("P22 the target stays", Check.show(x, 7), "'old'");
            return CANNOT;
        }
    }

    private static void ahead(String rule, String schema, int kind, int n, String text, String value, String due) {
        C.is("P22 " + rule + ": " + schema + " by " + text + " of " + value, over(schema, kind, n, text, value, true), due);
    }

    private static void back(String rule, String schema, int kind, int n, String text, String value, String due) {
        C.is("P22 back, " + rule + ": " + schema + " by " + text + " of " + value, over(schema, kind, n, text, value, false), due);
    }

    /** What a sum comes to for a field of a shape, of a record with the fields b, c and d. */
    private static void sum(String rule, String shape, String sum, String record, String due) {
        String with = record.equals("{}") ? "{a:" + due + "}" : "{a:" + due + "," + record.substring(1);
        ahead("ADD, " + rule, "R={b?:num,c?:text,d?:[num]};", ShapeLang.ADD, 0, "a:" + shape + "=" + sum, record, with);
        back("DROP, " + rule, "R={a:" + shape + ",b?:num,c?:text,d?:[num]};", ShapeLang.DROP, 0, "a=" + sum, record, with);
        ahead("REQUIRE, " + rule, "R={a?:" + shape + ",b?:num,c?:text,d?:[num]};", ShapeLang.REQUIRE, 0, "a=" + sum, record, with);
        String old = record.equals("{}") ? "{a:<>}" : "{a:<>," + record.substring(1);
        ahead("RETYPE, " + rule, "R={a:<num>,b?:num,c?:text,d?:[num]};", ShapeLang.RETYPE, 0, "a:" + shape + "=" + sum, old, with);
    }

    private static void losses(String rule, String schema, int kind, int n, String text, int ahead, int back) {
        ShapeLang x = new ShapeLang();
        Check.begin(x, schema);
        Check.change(x, 0, kind, 0, n, text);
        C.is("P23 " + rule + ": " + schema + " by " + text, x.losses(0, 1), ahead);
        C.is("P23 back, " + rule + ": " + schema + " by " + text, x.losses(1, 0), back);
    }

    private static void form(String rule, String schema, String value, String bits) {
        ShapeLang x = new ShapeLang();
        Check.begin(x, schema);
        Check.put(x, 0, value);
        C.is("P24 bits, " + rule + ": " + value, x.encode(0, 0), bits.length());
        C.is("P24 " + rule + ": " + value, Check.bits(x, Math.min(bits.length(), 8 * x.length())), bits);
        C.is("P24 bytes, " + rule, x.length(), (bits.length() + 7) / 8);
        C.is("P24 filled up with 0", Check.bits(x, 8 * x.length()), bits + "0".repeat(8 * x.length() - bits.length()));
        Check.feedBits(x, bits);
        Check.feed(x, "more");
        int nodes = x.decode(0, bits.length(), 7);
        C.is("P25 " + rule + ": " + bits, Check.show(x, 7), value);
        C.is("P25 nodes, " + rule, nodes, Check.put(x, 1, value));
        C.is("P9 the same value, " + rule, x.compare(7, 1), 0);
        C.is("P24 once more, " + rule, x.encode(0, 7), bits.length());
        C.is("P25 the tape is used up", Seen.tape(x), 0);
        if (!bits.isEmpty()) {
            noForm(rule + ", a bit less", schema, bits.substring(0, bits.length() - 1));
        }
        noForm(rule + ", a bit more", schema, bits + "0");
    }

    private static void noForm(String rule, String schema, String bits) {
        ShapeLang x = new ShapeLang();
        Check.begin(x, schema);
        Check.put(x, 7, "'old'");
        Check.feedBits(x, bits);
        C.noState("P25 " + rule + ": " + schema + " " + bits, () -> x.decode(0, bits.length(), 7));
        C.is("P25 the slot stays", Check.show(x, 7), "'old'");
        C.is("P25 the tape is used up", Seen.tape(x), 0);
    }

    public static void main(String[] args) {
        sums();
        defaults();
        splitAndJoin();
        missing();
        tooMuch();
        ways();
        lost();
        forms();
        noForms();
        longForms();
        C.end("ConvertBoundsTest");
    }

    private static void sums() {
        sum("the greatest number", "num", "(9999)", "{}", "9999");
        sum("above the greatest number", "num", "(9999+1)", "{}", "9999");
        sum("just not above it", "num", "(9998+1)", "{}", "9999");
        sum("below the least number", "num", "(-9999-1)", "{}", "-9999");
        sum("just not below it", "num", "(-9998-1)", "{}", "-9999");
        sum("far above", "num", "(9999*9999*9999*9999)", "{}", "9999");
        sum("far below", "num", "(-9999*9999*9999*9999)", "{}", "-9999");
        sum("between far ones", "num", "(9999*9999-9999*9998)", "{}", "9999");
        sum("between other far ones", "num", "(9999*9998-9999*9999)", "{}", "-9999");
        sum("far ones to 0", "num", "(b*b*b-b)", "{b:1}", "0");
        sum("not brought nearer on the way", "num", "(b*b-b*9998)", "{b:9998}", "0");
        sum("not brought nearer below", "num", "(b*b+b*9998)", "{b:-9998}", "0");
        sum("brought to 9999, which is not of the shape", "num(0..9998)", "(9999+1)", "{}", "0");
        sum("brought to -9999, which is not of the shape", "num(-9998..7)", "(-9999-1)", "{}", "0");
        sum("brought to 9999, which is", "num(9999..9999)", "(9999*2)", "{}", "9999");
        sum("just of the shape", "num(2..5)", "(5)", "{}", "5");
        sum("just above the shape", "num(2..5)", "(6)", "{}", "2");
        sum("just below the shape", "num(2..5)", "(1)", "{}", "2");
        sum("of the second part", "num(2..5)|num(7..7)", "(7)", "{}", "7");
        sum("of no part", "num(2..5)|num(7..7)", "(6)", "{}", "2");
        sum("a shape without numbers", "text(ab)|[num]", "(7)", "{}", "'ab'");
        sum("a shape of lists", "[num;2..3]", "(7)", "{}", "[0,0]");
        sum("a shape with the least value in another part", "text|num(4..4)", "(7)", "{}", "4");
        sum("products first", "num", "(2+3*4)", "{}", "14");
        sum("products first, from the left", "num", "(2*3+4)", "{}", "10");
        sum("brackets first", "num", "((2+3)*4)", "{}", "20");
        sum("from the left", "num", "(9-3-2)", "{}", "4");
        sum("- and +", "num", "(9-3+2)", "{}", "8");
        sum("- of a bracket", "num", "(9-(3-2))", "{}", "8");
        sum("INTs below 0", "num", "(-5*-7)", "{}", "35");
        sum("INTs below 0 behind -", "num", "(5--7)", "{}", "12");
        sum("all digits", "num", "(1024+3056)", "{}", "4080");
        sum("more digits", "num", "(7089-90)", "{}", "6999");
        sum("a field", "num", "(b)", "{b:-17}", "-17");
        sum("a field that is missing", "num", "(b+3)", "{}", "3");
        sum("a field that is a text", "num", "(c+3)", "{c:'zz'}", "3");
        sum("a field that is a list", "num", "(d+3)", "{d:[8]}", "3");
        sum("deep brackets", "num", "((((((((((((b+1))))))))))))", "{b:6}", "7");
        // an @ stands for what it leads to
        for (int n : new int[] {2, 7, 9}) {
            String rest = ";S=text(a)|num(2..3)|@T;T=num(7..7)|num(9..9);";
            ahead("a sum of the shape by @", "R={}" + rest, ShapeLang.ADD, 0, "a:@S=(" + n + ")", "{}", "{a:" + n + "}");
            back("a sum of the shape by @", "R={a:@S}" + rest, ShapeLang.DROP, 0, "a=(" + n + ")", "{}", "{a:" + n + "}");
            ahead("a sum not of the shape by @", "R={}" + rest, ShapeLang.ADD, 0, "a:@S=(" + (n - 1) + ")", "{}", "{a:2}");
            ahead("a sum of the last part by @", "R={}" + rest, ShapeLang.ADD, 0, "a:<num>|@T=(" + n + ")", "{}", n == 2 ? "{a:7}" : "{a:" + n + "}");
        }
        ahead("of a field that is found first, named second", "R={b:num};", ShapeLang.ADD, 0, "a:num=(b+c),c:num=5", "{b:4}", "{a:9,b:4,c:5}");
        ahead("of a field that is found first, named last", "R={b:num};", ShapeLang.ADD, 0, "a:num=(b*1-b+c),c:num=5", "{b:4}", "{a:5,b:4,c:5}");
        ahead("of a field a that comes by it, and of another one", "R={};", ShapeLang.ADD, 0, "a:num=4,b:num=(a+c),c:num=5", "{}", "{a:4,b:9,c:5}");
        ahead("a sum of fields that come by it", "R={};", ShapeLang.ADD, 0, "a:num=(c+1),b?:num=(a+1),c:num=5", "{}", "{a:6,b:7,c:5}");
        ahead("of what such a field is in the end", "R={};", ShapeLang.ADD, 0, "a:num=(b),b:num(2..4)=(9)", "{}", "{a:2,b:2}");
        ahead("of such a field that is no number", "R={};", ShapeLang.ADD, 0, "a:num=(b+1),b:text='q'", "{}", "{a:1,b:'q'}");
        ahead("names that begin alike", "R={b:num,bb:num};", ShapeLang.ADD, 0, "a:num=(bb-b)", "{b:1,bb:7}", "{a:6,b:1,bb:7}");
        ahead("a name of 4", "R={zzzz:num};", ShapeLang.ADD, 0, "a:num=(zzzz*2)", "{zzzz:4}", "{a:8,zzzz:4}");
    }

    private static void defaults() {
        ahead("a value that is of the shape", "R={};", ShapeLang.ADD, 0, "a:num(2..5)=5", "{}", "{a:5}");
        ahead("a value that is not", "R={};", ShapeLang.ADD, 0, "a:num(2..5)=6", "{}", "{a:2}");
        ahead("a value of another kind", "R={};", ShapeLang.ADD, 0, "a:num(-5..-2)='x'", "{}", "{a:-2}");
        ahead("also with ?", "R={};", ShapeLang.ADD, 0, "a?:num=5", "{}", "{a:5}");
        ahead("the least value of new definitions", "R={};", ShapeLang.ADD, 0, "a?:@R='x'", "{}", "{a:{}}");
        back("DROP also with ?", "R={a?:num};", ShapeLang.DROP, 0, "a=5", "{}", "{a:5}");
        ahead("RETYPE, of the new shape", "R={a:num};", ShapeLang.RETYPE, 0, "a:num(2..5)=3", "{a:5}", "{a:5}");
        ahead("RETYPE, not of the new shape", "R={a:num};", ShapeLang.RETYPE, 0, "a:num(2..5)=3", "{a:6}", "{a:3}");
        back("RETYPE, of the old shape", "R={a:num(2..5)};", ShapeLang.RETYPE, 0, "a:num=3", "{a:5}", "{a:5}");
        back("RETYPE, the least value of the old shape", "R={a:num(2..5)};", ShapeLang.RETYPE, 0, "a:num=3", "{a:6}", "{a:2}");
        ahead("RETYPE, of the new shape by the new definitions", "R={a?:{}};", ShapeLang.RETYPE, 0, "a:@R|num=7", "{a:{}}", "{a:{}}");
        ahead("REQUIRE, there", "R={a?:num};", ShapeLang.REQUIRE, 0, "a=3", "{a:5}", "{a:5}");
        ahead("REQUIRE, not there", "R={a?:num};", ShapeLang.REQUIRE, 0, "a=3", "{}", "{a:3}");
        back("REQUIRE", "R={a?:num};", ShapeLang.REQUIRE, 0, "a=3", "{a:5}", "{a:5}");
        back("RELAX, there", "R={a:num(4..9)};", ShapeLang.RELAX, 0, "a", "{a:5}", "{a:5}");
        back("RELAX, not there", "R={a:num(4..9)};", ShapeLang.RELAX, 0, "a", "{}", "{a:4}");
        ahead("RELAX", "R={a:num};", ShapeLang.RELAX, 0, "a", "{a:5}", "{a:5}");
        back("RELAX, a least value deeper than a slot", "R={a:@S};S=A(B(C(D(A(B(C(D(A(B(@T))))))))));T=A(B(num));", ShapeLang.RELAX, 0, "a", "{}", CANNOT);
        back("RELAX, a least value as deep as a slot", "R={a:@S};S=A(B(C(D(A(B(C(D(A(B(@T))))))))));T=A(num);", ShapeLang.RELAX, 0, "a", "{}", "{a:A(B(C(D(A(B(C(D(A(B(A(0)))))))))))}");
    }

    private static void splitAndJoin() {
        ahead("by 2", "R={f:num(0..9)};", ShapeLang.SPLIT, 2, "f,g,h", "{f:9}", "{g:4,h:1}");
        ahead("by 100", "R={f:num(0..9999)};", ShapeLang.SPLIT, 100, "f,g,h", "{f:9999}", "{g:99,h:99}");
        ahead("0", "R={f:num(0..9999)};", ShapeLang.SPLIT, 100, "f,g,h", "{f:0}", "{g:0,h:0}");
        ahead("below n", "R={f:num(0..9999)};", ShapeLang.SPLIT, 100, "f,g,h", "{f:99}", "{g:0,h:99}");
        ahead("n", "R={f:num(0..9999)};", ShapeLang.SPLIT, 100, "f,g,h", "{f:100}", "{g:1,h:0}");
        back("g * n + h", "R={f:num(5..57)};", ShapeLang.SPLIT, 10, "f,g,h", "{g:5,h:7}", "{f:57}");
        back("above the shape of f", "R={f:num(5..57)};", ShapeLang.SPLIT, 10, "f,g,h", "{g:5,h:8}", "{f:57}");
        back("below the shape of f", "R={f:num(5..57)};", ShapeLang.SPLIT, 10, "f,g,h", "{g:0,h:4}", "{f:5}");
        back("the least one of f", "R={f:num(5..57)};", ShapeLang.SPLIT, 10, "f,g,h", "{g:0,h:5}", "{f:5}");
        back("called like the old one", "R={f:num(5..57)};", ShapeLang.SPLIT, 10, "f,h,f", "{f:3,h:2}", "{f:23}");
        ahead("g * n + h, joined", "R={g:num(1..3),h:num(2..4)};", ShapeLang.JOIN, 5, "g,h,f", "{g:3,h:4}", "{f:19}");
        ahead("to 9999", "R={g:num(0..99),h:num(0..99)};", ShapeLang.JOIN, 100, "g,h,f", "{g:99,h:99}", "{f:9999}");
        back("f / n and the remainder", "R={g:num(1..3),h:num(2..4)};", ShapeLang.JOIN, 10, "g,h,f", "{f:34}", "{g:3,h:4}");
        back("the remainder above the shape of h", "R={g:num(1..3),h:num(2..4)};", ShapeLang.JOIN, 10, "g,h,f", "{f:15}", "{g:1,h:4}");
        back("the remainder below the shape of h", "R={g:num(1..3),h:num(2..4)};", ShapeLang.JOIN, 10, "g,h,f", "{f:21}", "{g:2,h:2}");
    }

    private static void missing() {
        ahead("RENAME", "R={a?:num,b:num};", ShapeLang.RENAME, 0, "a,c", "{b:1}", "{b:1}");
        back("RENAME", "R={a?:num,b:num};", ShapeLang.RENAME, 0, "a,c", "{b:1}", "{b:1}");
        ahead("RENAME to itself", "R={a?:num,b:num};", ShapeLang.RENAME, 0, "a,a", "{a:4,b:1}", "{a:4,b:1}");
        back("RENAME to itself", "R={a?:num,b:num};", ShapeLang.RENAME, 0, "a,a", "{a:4,b:1}", "{a:4,b:1}");
        ahead("MOVE", "R={f?:num,r:{}};", ShapeLang.MOVE, 0, "f,r", "{r:{}}", "{r:{}}");
        back("MOVE", "R={f?:num,r:{}};", ShapeLang.MOVE, 0, "f,r", "{r:{}}", "{r:{}}");
        ahead("LIFT", "R={r:{f?:num}};", ShapeLang.LIFT, 0, "r,f", "{r:{}}", "{r:{}}");
        back("LIFT", "R={r:{f?:num}};", ShapeLang.LIFT, 0, "r,f", "{r:{}}", "{r:{}}");
        ahead("RETYPE", "R={a?:num};", ShapeLang.RETYPE, 0, "a:text='x'", "{}", "{}");
        back("RETYPE", "R={a?:num};", ShapeLang.RETYPE, 0, "a:text='x'", "{}", "{}");
        ahead("WRAP", "R={a?:num};", ShapeLang.WRAP, 0, "a,T", "{}", "{}");
        back("WRAP", "R={a?:num};", ShapeLang.WRAP, 0, "a,T", "{}", "{}");
        ahead("UNWRAP", "R={a?:T(num)};", ShapeLang.UNWRAP, 0, "a", "{}", "{}");
        back("UNWRAP", "R={a?:T(num)};", ShapeLang.UNWRAP, 0, "a", "{}", "{}");
        ahead("DROP", "R={a?:num};", ShapeLang.DROP, 0, "a=0", "{}", "{}");
        back("ADD", "R={};", ShapeLang.ADD, 0, "a?:num=0,b?:num=0", "{b:1}", "{}");
        ahead("RELAX", "R={a:num,b?:num};", ShapeLang.RELAX, 0, "a", "{a:1}", "{a:1}");
    }

    /** More than 60 nodes or 12 values around, also of what comes of it on the way. */
    private static void tooMuch() {
        String eight = "[1,1,1,1,1,1,1,1]";
        ShapeLang x = new ShapeLang();
        Check.begin(x, "R=[@R]|@S;S={a?:num};");
        Check.change(x, 0, ShapeLang.ADD, 1, 0, "b:[num]=" + eight);
        Check.change(x, 1, ShapeLang.DROP, 1, 0, "b=" + eight);
        // five records with 9 nodes more each: 45 and the rest
        String five = "[{},{},{},{},{},[";
        Check.put(x, 0, five + "[[],[],[],[]],[]]]");
        C.is("P22 the nodes ahead", x.convert(0, 0, 0, 1), 13);
        C.is("P22 58 nodes", x.convert(0, 1, 0, 1), 58);
        C.is("P22 58 nodes on the way", x.convert(0, 2, 0, 2), 13);
        C.is("P22 and back over it", x.convert(2, 0, 2, 3), 13);
        Check.put(x, 0, five + "[[],[],[],[]],[],[],[]]]");
        C.is("P22 60 nodes", x.convert(0, 1, 0, 1), 60);
        C.is("P22 60 nodes on the way", x.convert(0, 2, 0, 2), 15);
        C.is("P22 60 nodes on the way back", x.convert(2, 0, 2, 3), 15);
        Check.put(x, 0, five + "[[],[],[],[]],[],[],[],[]]]");
        C.noState("P22 61 nodes", () -> x.convert(0, 1, 0, 1));
        C.noState("P22 61 nodes on the way", () -> x.convert(0, 2, 0, 1));
        C.noState("P22 61 nodes on the way back", () -> x.convert(2, 0, 0, 1));
        C.is("P22 the target stays", x.show(1), Check.show(x, 1).length());
        C.is("P22 without a way it stays as it is", x.convert(0, 0, 0, 4), 16);
        ShapeLang y = new ShapeLang();
        Check.begin(y, "R=[@R]|@S;S={a:num};");
        Check.change(y, 0, ShapeLang.WRAP, 1, 0, "a,T");
        Check.change(y, 1, ShapeLang.UNWRAP, 1, 0, "a");
        Check.put(y, 0, "[".repeat(10) + "{a:1}" + "]".repeat(10));
        C.is("P22 12 around", y.convert(0, 1, 0, 1), 13);
        C.is("P22 12 around on the way", y.convert(0, 2, 0, 2), 12);
        C.is("P22 12 around on the way back", y.convert(2, 0, 2, 3), 12);
        Check.put(y, 0, "[".repeat(11) + "{a:1}" + "]".repeat(11));
        C.noState("P22 13 around", () -> y.convert(0, 1, 0, 1));
        C.noState("P22 13 around on the way", () -> y.convert(0, 2, 0, 2));
        C.noState("P22 13 around on the way back", () -> y.convert(2, 0, 0, 3));
        Check.put(y, 0, "[{a:2}," + "[".repeat(10) + "{a:1}" + "]".repeat(10) + "]");
        C.noState("P22 13 around in one place", () -> y.convert(0, 1, 0, 1));
    }

    private static void ways() {
        ShapeLang x = new ShapeLang();
        Check.begin(x, "R={a:num};");
        Check.change(x, 0, ShapeLang.RETYPE, 0, 0, "a:text='x'");
        Check.change(x, 1, ShapeLang.RENAME, 0, 0, "a,b");
        Check.change(x, 1, ShapeLang.RENAME, 0, 0, "a,c");
        Check.change(x, 0, ShapeLang.RENAME, 0, 0, "a,d");
        Check.begin(x, "R={a:num};");
        Check.put(x, 0, "{b:'q'}");
        C.is("P22 over the nearest one", x.convert(2, 3, 0, 1), 2);
        C.is("P22 not over the first one", Check.show(x, 1), "{c:'q'}");
        C.is("P22 over the first one", x.convert(2, 4, 0, 1), 2);
        C.is("P22 by the least value", Check.show(x, 1), "{d:0}");
        C.is("P22 and to the other side", x.convert(4, 3, 1, 1), 2);
        C.is("P22 by the default", Check.show(x, 1), "{c:'x'}");
        C.is("P23 over the nearest one", x.losses(2, 3), 0);
        C.is("P23 over the first one", x.losses(2, 4), 1);
        C.is("P23 from the first one", x.losses(4, 3), 1);
        C.is("P23 none", x.losses(5, 0), ShapeLang.NONE);
        C.is("P23 none the other way", x.losses(2, 5), ShapeLang.NONE);
        C.is("P23 itself", x.losses(5, 5), 0);
        C.noState("P22 none", () -> x.convert(4, 5, 1, 1));
        C.is("P22 itself", x.convert(2, 2, 0, 6), 2);
        C.is("P22 as it is", Check.show(x, 6), "{b:'q'}");
        C.is("P22 into its own slot", x.convert(2, 3, 0, 0), 2);
        C.is("P22 what comes of it", Check.show(x, 0), "{c:'q'}");
        // by the first part of which a value is, and only where that is the changed { }
        ShapeLang y = new ShapeLang();
        Check.begin(y, "R=[{a:num}|@S];S={a:num|text};");
        Check.change(y, 0, ShapeLang.RENAME, 1, 0, "a,b");
        Check.put(y, 0, "[{a:2},{a:''}]");
        y.convert(0, 1, 0, 1);
        C.is("P22 the first part of which it is", Check.show(y, 1), "[{a:2},{b:''}]");
    }

    private static void lost() {
        losses("ADD", "R={};", ShapeLang.ADD, 0, "a:num=0", 0, 1);
        losses("ADD of what may miss", "R={};", ShapeLang.ADD, 0, "a?:num=0", 0, 1);
        losses("DROP", "R={a:num};", ShapeLang.DROP, 0, "a=0", 1, 0);
        losses("RENAME", "R={a:num};", ShapeLang.RENAME, 0, "a,b", 0, 0);
        losses("MOVE", "R={f:num,r:{}};", ShapeLang.MOVE, 0, "f,r", 0, 0);
        losses("LIFT", "R={r:{f:num}};", ShapeLang.LIFT, 0, "r,f", 0, 0);
        losses("WRAP", "R={a:num};", ShapeLang.WRAP, 0, "a,T", 0, 0);
        losses("UNWRAP", "R={a:T(num)};", ShapeLang.UNWRAP, 0, "a", 0, 0);
        losses("RELAX", "R={a:num};", ShapeLang.RELAX, 0, "a", 0, 1);
        losses("REQUIRE", "R={a?:num};", ShapeLang.REQUIRE, 0, "a=0", 1, 0);
        losses("SPLIT of whole ones", "R={f:num(10..29)};", ShapeLang.SPLIT, 10, "f,g,h", 0, 0);
        losses("SPLIT from one more on", "R={f:num(11..29)};", ShapeLang.SPLIT, 10, "f,g,h", 0, 1);
        losses("SPLIT from one less on", "R={f:num(9..29)};", ShapeLang.SPLIT, 10, "f,g,h", 0, 1);
        losses("SPLIT to one less", "R={f:num(10..28)};", ShapeLang.SPLIT, 10, "f,g,h", 0, 1);
        losses("SPLIT to one more", "R={f:num(10..30)};", ShapeLang.SPLIT, 10, "f,g,h", 0, 1);
        losses("JOIN of whole ones", "R={g:num(0..3),h:num(0..9)};", ShapeLang.JOIN, 10, "g,h,f", 0, 0);
        losses("JOIN, h from one more on", "R={g:num(0..3),h:num(1..9)};", ShapeLang.JOIN, 10, "g,h,f", 0, 1);
        losses("JOIN, h to one less", "R={g:num(0..3),h:num(0..8)};", ShapeLang.JOIN, 10, "g,h,f", 0, 1);
        losses("JOIN, one g", "R={g:num(3..3),h:num(4..5)};", ShapeLang.JOIN, 10, "g,h,f", 0, 0);
        losses("JOIN, two g", "R={g:num(3..4),h:num(4..5)};", ShapeLang.JOIN, 10, "g,h,f", 0, 1);
        losses("RETYPE to the same", "R={a:num(0..9)};", ShapeLang.RETYPE, 0, "a:num(0..9)=0", 0, 0);
        losses("RETYPE to one more", "R={a:num(0..9)};", ShapeLang.RETYPE, 0, "a:num(0..10)=0", 0, 1);
        losses("RETYPE to one less", "R={a:num(0..9)};", ShapeLang.RETYPE, 0, "a:num(0..8)=0", 1, 0);
        losses("RETYPE to others", "R={a:num(0..9)};", ShapeLang.RETYPE, 0, "a:num(1..10)=1", 1, 1);
        losses("RETYPE by the new definitions", "R={a?:{a?:{a?:num}}};", ShapeLang.RETYPE, 0, "a:@R|num=0", 0, 1);
        losses("RETYPE by the old definitions", "R={a?:@R|num};", ShapeLang.RETYPE, 0, "a:{a?:{a?:num}}={}", 1, 0);
        ShapeLang x = new ShapeLang();
        Check.begin(x, "R={a:num,b:num};");
        Check.change(x, 0, ShapeLang.DROP, 0, 0, "a=0");
        Check.change(x, 1, ShapeLang.RELAX, 0, 0, "b");
        Check.change(x, 2, ShapeLang.REQUIRE, 0, 0, "b=0");
        Check.change(x, 3, ShapeLang.DROP, 0, 0, "b=0");
        C.is("P23 several forward", x.losses(0, 4), 3);
        C.is("P23 several backward", x.losses(4, 0), 1);
        C.is("P23 a stretch", x.losses(1, 3), 1);
        C.is("P23 a stretch back", x.losses(3, 1), 1);
    }

    private static void forms() {
        form("one part", "R=num(0..1);", "1", "1");
        form("2 parts", "R=num(0..1)|text;", "1", "01");
        form("3 parts", "R=num(0..1)|text|{};", "{}", "10");
        form("4 parts", "R=num(0..1)|text|{}|[none];", "{}", "10");
        form("5 parts", "R=num(0..1)|text|{}|[none;0..0]|<none>;", "[]", "011");
        form("6 parts", "R=num(0..1)|text|{}|[none;0..0]|<none>|A({});", "A({})", "101");
        form("an @ is one part", "R=@S;S=num(0..1)|text;", "1", "01");
        form("an @ is one of two", "R=@S|{};S=num(0..1)|text;", "1", "001");
        form("an @ behind", "R={}|@S;S=num(0..1)|text;", "''", "110000");
        form("no bits", "R={};", "{}", "");
        form("no bits of one number", "R=num(7..7);", "7", "");
        form("no bits of one number below 0", "R=num(-7..-7);", "-7", "");
        form("1 bit", "R=num(-1..0);", "0", "1");
        form("2 bits for 2", "R=num(5..7);", "7", "10");
        form("2 bits for 3", "R=num(5..8);", "8", "11");
        form("3 bits for 4", "R=num(5..9);", "9", "100");
        form("15 bits", "R=num;", "9999", "100111000011110");
        form("15 bits of the least one", "R=num;", "-9999", "000000000000000");
        form("14 bits", "R=num(0..9999);", "9999", "10011100001111");
        form("14 bits with 0 ahead", "R=num(0..9999);", "1", "00000000000001");
        form("no letters", "R=text;", "''", "0000");
        form("8 letters", "R=text;", "'abyzabyz'", "1000" + "0000000001" + "1100011001" + "0000000001" + "1100011001");
        form("texts are told whole by items, too", "R=text(ab*);", "'abb'", "0011" + "000000000100001");
        form("0 to 8 items", "R=[num(0..0)];", "[0,0,0,0,0,0,0,0]", "1000");
        form("0 to 7 items", "R=[num(0..0);0..7];", "[0,0,0,0,0,0,0]", "111");
        form("1 to 8 items", "R=[num(0..0);1..8];", "[0]", "000");
        form("2 to 4 items", "R=[num(0..0);2..4];", "[0,0,0,0]", "10");
        form("3 to 3 items", "R=[num(0..1);3..3];", "[1,0,1]", "101");
        form("no items", "R=[num;0..0];", "[]", "");
        form("fields by rising names", "R={b:num(0..1),aa:num(0..3),c:num(0..1)};", "{b:1,c:0,aa:2}", "1010");
        form("fields with ?", "R={a?:num(0..1),b?:num(0..1)};", "{b:1}", "011");
        form("no fields with ?", "R={a?:num(0..1),b?:num(0..1)};", "{}", "00");
        form("a Tag tells nothing", "R=A(num(0..1));", "A(1)", "1");
        form("no entries", "R=<num>;", "<>", "0000");
        form("8 entries", "R=<num(0..0)>;", "<'':0,'a':0,'b':0,'c':0,'d':0,'e':0,'f':0,'g':0>", "1000" + "0000" + "000100000" + "000100001" + "000100010" + "000100011" + "000100100" + "000100101" + "000100110");
        form("entries with values", "R=<num(0..1)>;", "<'b':1>", "0001" + "0001" + "00001" + "1");
        form("the first part of which it is", "R=num(0..5)|num(4..9);", "5", "0101");
        form("the second part", "R=num(0..5)|num(4..9);", "6", "1010");
        form("a whole byte", "R=num(0..255);", "170", "10101010");
        form("a byte and a bit", "R=num(0..511);", "340", "101010100");
    }

    private static void noForms() {
        noForm("a later part", "R=num(0..5)|num(4..9);", "1001");
        noForm("a later part inside", "R=[num(0..5)|num(4..9);1..1];", "1001");
        noForm("a later part behind an @", "R=@S|num(0..1);S=num(1..1);", "11");
        noForm("an @ behind what it leads to", "R=num(1..1)|@S;S=num(0..1);", "11");
        noForm("the third part, as it is of the second one", "R=text|num(0..1)|num(0..3);", "1001");
        noForm("a place behind the last part", "R=num(0..0)|num(1..1)|num(2..2);", "11");
        noForm("a place behind 5 parts", "R=none|text|{}|[none;0..0]|<none>;", "101");
        noForm("none", "R=none;", "");
        noForm("none of two", "R=none|{};", "0");
        noForm("a number above the greatest", "R=num(5..9);", "101");
        noForm("a number above the greatest of all", "R=num;", "100111000011111");
        noForm("a list above the greatest", "R=[num(0..0);2..4];", "11");
        noForm("9 items", "R=[num(0..0)];", "1001");
        noForm("9 letters", "R=text;", "1001" + "00000".repeat(9));
        noForm("15 letters", "R=text;", "1111" + "00000".repeat(15));
        noForm("a letter behind z", "R=text;", "0001" + "11010");
        noForm("the last letter", "R=text;", "0001" + "11111");
        noForm("a text that does not fit", "R=text(a);", "0001" + "00001");
        noForm("9 entries", "R=<num(0..0)>;", "1001" + "0000" + "000100000" + "000100001" + "000100010" + "000100011" + "000100100" + "000100101" + "000100110" + "000100111");
        noForm("keys alike", "R=<num(0..0)>;", "0010" + "0000" + "0000");
        noForm("keys falling", "R=<num(0..0)>;", "0010" + "000100001" + "000100000");
        noForm("keys falling to the empty one", "R=<num(0..0)>;", "0010" + "000100001" + "0000");
        noForm("a key of 9", "R=<num(0..0)>;", "0001" + "1001" + "00000".repeat(9));
        noForm("a letter of a key behind z", "R=<num(0..0)>;", "0001" + "0001" + "11010");
        noForm("endless", "R={a:@R};", "");
        noForm("endless with bits", "R={a:@R,b:num(0..1)};", "0".repeat(64));
        noForm("endless over @", "R=A(@S);S=[@R;1..1];", "");
        noForm("no bits for a number", "R=num(0..1);", "");
        noForm("bits for nothing", "R={};", "0");
        ShapeLang x = new ShapeLang();
        Check.begin(x, "R=num(0..511);");
        Check.begin(x, "R=num(0..255);");
        int bit = Check.begin(x, "R=num(0..1);");
        x.feed(0x7f, 1);
        C.is("P25 what stands behind the bits does not count", x.decode(bit, 1, 0), 1);
        C.is("P25 a bit that is 0", Check.show(x, 0), "0");
        x.feed(0xff80, 2);
        C.is("P25 nor in further bytes", x.decode(bit, 1, 0), 1);
        C.is("P25 a bit that is 1", Check.show(x, 0), "1");
        for (int sign : new int[] {0, 255}) {
            x.feed(sign, 1);
            C.noState("P25 9 bits of 8", () -> x.decode(0, 9, 0));
            x.feed(sign, 1);
            C.is("P25 8 bits of 8", x.decode(1, 8, 0), 1);
            C.is("P25 their number", Check.show(x, 0), "" + sign);
        }
    }

    private static String letters(String text) {
        StringBuilder bits = new StringBuilder(bits(text.length(), 4));
        for (char c : text.toCharArray()) {
            bits.append(bits(c - 'a', 5));
        }
        return bits.toString();
    }

    private static String bits(int number, int width) {
        String told = Integer.toBinaryString(number);
        return "0".repeat(width - told.length()) + told;
    }

    /** 60 nodes, 12 values around, 4800 bits, and forms that are longer. */
    private static void longForms() {
        String seven = "0111" + "0".repeat(7 * 3);
        String schema = "R=[[num(0..7)]];";
        ShapeLang x = new ShapeLang();
        Check.begin(x, schema);
        Check.feedBits(x, "1000" + seven.repeat(7) + "0010" + "000000");
        C.is("P25 60 nodes", x.decode(0, 4 + 25 * 7 + 4 + 6, 0), 60);
        Check.feedBits(x, "1000" + seven.repeat(7) + "0011" + "000000000");
        C.noState("P25 61 nodes", () -> x.decode(0, 4 + 25 * 7 + 4 + 9, 0));
        C.is("P25 the slot stays", x.encode(0, 0), 4 + 25 * 7 + 4 + 6);
        Check.begin(x, "R=[@R;0..1]|{};");
        Check.feedBits(x, "01".repeat(11) + "01" + "1");
        C.is("P25 12 values around", x.decode(1, 25, 1), 13);
        C.is("P8 its text", Check.show(x, 1), "[".repeat(12) + "{}" + "]".repeat(12));
        Check.feedBits(x, "01".repeat(12) + "01" + "1");
        C.noState("P25 13 values around", () -> x.decode(1, 27, 1));
        Check.feedBits(x, "01".repeat(12) + "00");
        C.is("P25 12 lists around one", x.decode(1, 26, 1), 13);
        Check.feedBits(x, "01".repeat(13) + "00");
        C.noState("P25 13 lists around one", () -> x.decode(1, 28, 1));
        // 7 maps in one, with 52 texts in all: 60 nodes
        StringBuilder plain = new StringBuilder(bits(7, 4));
        StringBuilder parted = new StringBuilder(bits(7, 4));
        int shorter = 35;
        for (int m = 0; m < 7; m++) {
            int entries = m < 6 ? 8 : 4;
            String head = letters("zzzzzzz" + (char) ('a' + m));
            plain.append(head).append(bits(entries, 4));
            parted.append(head).append("0").append(bits(entries, 4));
            for (int e = 0; e < entries; e++) {
                String text = "zyxwvuts".substring(shorter > 0 ? 1 : 0);
                shorter--;
                plain.append(letters("aaaaaaa" + (char) ('a' + e))).append(letters(text));
                parted.append(letters("aaaaaaa" + (char) ('a' + e))).append("0").append(letters(text));
            }
        }
        C.is("the form has 4800 bits", parted.length(), 4800);
        int parts = Check.begin(x, "R=<<text|none>|none>;");
        int alone = Check.begin(x, "R=<<text>>;");
        Check.feedBits(x, parted.toString());
        C.noArgument("P25 4801 bits", () -> x.decode(parts, 4801, 2));
        C.is("P25 4800 bits", x.decode(parts, 4800, 2), 60);
        C.is("P24 4800 bits", x.encode(parts, 2), 4800);
        C.is("P4 600 bytes", x.length(), 600);
        C.is("P24 all of them", Check.bits(x, 4800), parted.toString());
        C.is("P24 by another schema", x.encode(alone, 2), plain.length());
        C.is("P24 all of these", Check.bits(x, plain.length()), plain.toString());
        int more = Check.begin(x, "R=<<none|text|{}>|none|{}>;");
        C.is("P24 more than 4800 bits", x.encode(more, 2), 4800 + 59);
        C.is("P4 608 bytes", x.length(), 608);
        C.is("P8 a text of more than 600 bytes", x.show(2), 2 + 7 * 11 + 6 + 7 * 2 + 52 * 21 - 35 + 52 - 7);
    }
}
