/** Promises 22 to 25: convert, losses, encode, decode. */
public final class ConvertTest {
    private static final Check C = new Check();

    /** Converts a value over one change of the first definition, forward or backward. */
    private static String over(String schema, int kind, int n, String text, String value, boolean forward) {
        ShapeLang x = new ShapeLang();
        Check.begin(x, schema);
        Check.change(x, 0, kind, 0, n, text);
        int nodes = Check.put(x, 2, value);
        try {
            nodes = forward ? x.convert(0, 1, 2, 5) : x.convert(1, 0, 2, 5);
        } catch (IllegalStateException e) {
            return "cannot";
        }
        String told = Check.show(x, 5);
        C.is("P22 the old slot stays", Check.show(x, 2), value);
        C.is("P22 nodes", nodes, Check.put(x, 2, told));
        C.is("P9 the same value", x.compare(2, 5), 0);
        return told;
    }

    private static void ahead(String schema, int kind, int n, String text, String value, String due) {
        C.is("P22 " + schema + " " + kind + " " + text + " of " + value, over(schema, kind, n, text, value, true), due);
    }

    private static void back(String schema, int kind, int n, String text, String value, String due) {
        C.is("P22 back " + schema + " " + kind + " " + text + " of " + value, over(schema, kind, n, text, value, false), due);
    }

    private static void losses(String schema, int kind, int n, String text, int ahead, int back) {
        ShapeLang x = new ShapeLang();
        Check.begin(x, schema);
        Check.change(x, 0, kind, 0, n, text);
        C.is("P23 ahead " + schema + " " + kind + " " + text, x.losses(0, 1), ahead);
        C.is("P23 back " + schema + " " + kind + " " + text, x.losses(1, 0), back);
    }

    private static void form(String schema, String value, String bits) {
        ShapeLang x = new ShapeLang();
        Check.begin(x, schema);
        Check.put(x, 1, value);
        int count = x.encode(0, 1);
        C.is("P24 bits " + schema + " " + value, count, bits.length());
        C.is("P24 bytes " + schema + " " + value, x.length(), (bits.length() + 7) / 8);
        C.is("P24 form " + schema + " " + value, Check.bits(x, count), bits);
        for (int i = count; i < 8 * x.length(); i++) {
            C.is("P24 filled up with 0", Check.bits(x, i + 1).charAt(i), '0');
        }
        Check.feedBits(x, bits);
        int nodes = x.decode(0, bits.length(), 6);
        C.is("P25 decode " + schema + " " + value, Check.show(x, 6), value);
        C.is("P25 nodes", nodes, Check.put(x, 1, value));
    }

    private static void noForm(String schema, String bits) {
        ShapeLang x = new ShapeLang();
        Check.begin(x, schema);
        Check.put(x, 6, "5");
        Check.feedBits(x, bits);
        C.noState("P25 no form " + schema + " " + bits, () -> x.decode(0, bits.length(), 6));
        C.is("P25 the slot stays", Check.show(x, 6), "5");
        C.is("P25 used up", x.feed('1', 1), 1);
    }

    public static void main(String[] args) {
        forward();
        backward();
        deep();
        ways();
        losses("R={a:num};", ShapeLang.ADD, 0, "b:num=0", 0, 1);
        losses("R={a:num};", ShapeLang.DROP, 0, "a=0", 1, 0);
        losses("R={a:num};", ShapeLang.RENAME, 0, "a,b", 0, 0);
        losses("R={a:num(0..99)};", ShapeLang.SPLIT, 10, "a,b,c", 0, 0);
        losses("R={a:num(0..98)};", ShapeLang.SPLIT, 10, "a,b,c", 0, 1);
        losses("R={a:num(5..99)};", ShapeLang.SPLIT, 10, "a,b,c", 0, 1);
        losses("R={a:num(0..9),b:num(0..9)};", ShapeLang.JOIN, 10, "a,b,c", 0, 0);
        losses("R={a:num(0..9),b:num(0..8)};", ShapeLang.JOIN, 10, "a,b,c", 0, 1);
        losses("R={a:num(0..9),b:num(1..9)};", ShapeLang.JOIN, 10, "a,b,c", 0, 1);
        losses("R={a:num(3..3),b:num(1..7)};", ShapeLang.JOIN, 10, "a,b,c", 0, 0);
        losses("R={a:num,r:{}};", ShapeLang.MOVE, 0, "a,r", 0, 0);
        losses("R={r:{a:num}};", ShapeLang.LIFT, 0, "r,a", 0, 0);
        losses("R={a:num(0..5)};", ShapeLang.RETYPE, 0, "a:num(0..9)=0", 0, 1);
        losses("R={a:num(0..9)};", ShapeLang.RETYPE, 0, "a:num(0..5)=0", 1, 0);
        losses("R={a:num(0..9)};", ShapeLang.RETYPE, 0, "a:num(0..4)|num(5..9)=0", 0, 0);
        losses("R={a:[@R]|num};", ShapeLang.RETYPE, 0, "a:[{a:[@R]|num}]|num=0", 0, 0);
        losses("R={a:num};", ShapeLang.WRAP, 0, "a,T", 0, 0);
        losses("R={a:T(num)};", ShapeLang.UNWRAP, 0, "a", 0, 0);
        losses("R={a:num};", ShapeLang.RELAX, 0, "a", 0, 1);
        losses("R={a?:num};", ShapeLang.REQUIRE, 0, "a=0", 1, 0);
        forms();
        calls();
        C.end("ConvertTest");
    }

    private static void forward() {
        ahead("R={b:num};", ShapeLang.ADD, 0, "a?:text='x',c:num=(b*2-1)", "{b:5}", "{a:'x',b:5,c:9}");
        ahead("R={b:num};", ShapeLang.ADD, 0, "a:num=(c+1),c:num=(b+1)", "{b:5}", "{a:7,b:5,c:6}");
        ahead("R={b:num};", ShapeLang.ADD, 0, "a:num=(b*b*b)", "{b:9999}", "{a:9999,b:9999}");
        ahead("R={b:num};", ShapeLang.ADD, 0, "a:num=(b*b*b)", "{b:-9999}", "{a:-9999,b:-9999}");
        ahead("R={b:num};", ShapeLang.ADD, 0, "a:num=(b*b-b*b)", "{b:9999}", "{a:0,b:9999}");
        ahead("R={b?:num,c:text};", ShapeLang.ADD, 0, "a:num=(b+c+3)", "{c:'x'}", "{a:3,c:'x'}");
        ahead("R={b:num};", ShapeLang.ADD, 0, "a:num(2..4)=(b)", "{b:5}", "{a:2,b:5}");
        ahead("R={b:num};", ShapeLang.ADD, 0, "a:num(2..4)='x'", "{b:5}", "{a:2,b:5}");
        ahead("R={b:num};", ShapeLang.ADD, 0, "a:num=((b-2)*(b+2))", "{b:5}", "{a:21,b:5}");
        ahead("R={b:num};", ShapeLang.ADD, 0, "a:num=(1-2-3)", "{b:5}", "{a:-4,b:5}");
        ahead("R={a:num,b:num};", ShapeLang.DROP, 0, "a=0", "{a:1,b:2}", "{b:2}");
        ahead("R={a?:num,c:num};", ShapeLang.RENAME, 0, "a,z", "{a:1,c:2}", "{c:2,z:1}");
        ahead("R={a?:num,c:num};", ShapeLang.RENAME, 0, "a,z", "{c:2}", "{c:2}");
        ahead("R={a:num(0..99)};", ShapeLang.SPLIT, 10, "a,z,b", "{a:57}", "{b:7,z:5}");
        ahead("R={a:num(0..99)};", ShapeLang.SPLIT, 7, "a,a,b", "{a:57}", "{a:8,b:1}");
        ahead("R={a:num(0..9),b:num(0..9)};", ShapeLang.JOIN, 20, "a,b,c", "{a:5,b:7}", "{c:107}");
        ahead("R={a:num(0..9),b:num(0..9)};", ShapeLang.JOIN, 20, "b,a,a", "{a:5,b:7}", "{a:145}");
        ahead("R={f?:num,r:{z:num}};", ShapeLang.MOVE, 0, "f,r", "{f:1,r:{z:2}}", "{r:{f:1,z:2}}");
        ahead("R={f?:num,r:{z:num}};", ShapeLang.MOVE, 0, "f,r", "{r:{z:2}}", "{r:{z:2}}");
        ahead("R={r:{f?:num,z:num}};", ShapeLang.LIFT, 0, "r,f", "{r:{f:1,z:2}}", "{f:1,r:{z:2}}");
        ahead("R={r:{f?:num,z:num}};", ShapeLang.LIFT, 0, "r,f", "{r:{z:2}}", "{r:{z:2}}");
        ahead("R={a?:num};", ShapeLang.RETYPE, 0, "a:num(0..5)=3", "{a:5}", "{a:5}");
        ahead("R={a?:num};", ShapeLang.RETYPE, 0, "a:num(0..5)=3", "{a:6}", "{a:3}");
        ahead("R={a?:num};", ShapeLang.RETYPE, 0, "a:num(0..5)=3", "{}", "{}");
        ahead("R={a?:num,b:num};", ShapeLang.RETYPE, 0, "a:num(1..5)=(b+1)", "{a:0,b:3}", "{a:4,b:3}");
        ahead("R={a?:num,b:num};", ShapeLang.RETYPE, 0, "a:num(1..5)=(b+1)", "{a:0,b:9}", "{a:1,b:9}");
        ahead("R={a?:num};", ShapeLang.WRAP, 0, "a,T", "{a:5}", "{a:T(5)}");
        ahead("R={a?:num};", ShapeLang.WRAP, 0, "a,T", "{}", "{}");
        ahead("R={a?:T(num)};", ShapeLang.UNWRAP, 0, "a", "{a:T(5)}", "{a:5}");
        ahead("R={a:num};", ShapeLang.RELAX, 0, "a", "{a:5}", "{a:5}");
        ahead("R={a?:num};", ShapeLang.REQUIRE, 0, "a=7", "{}", "{a:7}");
        ahead("R={a?:num};", ShapeLang.REQUIRE, 0, "a=7", "{a:1}", "{a:1}");
        ahead("R={a?:num(5..9)};", ShapeLang.REQUIRE, 0, "a=(7*7)", "{}", "{a:5}");
        ahead("R={a:num};", ShapeLang.RENAME, 0, "a,b", "{b:1}", "cannot");
    }

    private static void backward() {
        back("R={b:num};", ShapeLang.ADD, 0, "a?:text='x',c:num=0", "{a:'y',b:5,c:3}", "{b:5}");
        back("R={a:num,b:num};", ShapeLang.DROP, 0, "a=(b+1)", "{b:2}", "{a:3,b:2}");
        back("R={a?:text,b:num};", ShapeLang.DROP, 0, "a='q'", "{b:2}", "{a:'q',b:2}");
        back("R={a:num(5..9),b:num};", ShapeLang.DROP, 0, "a=(b)", "{b:2}", "{a:5,b:2}");
        back("R={a?:num,c:num};", ShapeLang.RENAME, 0, "a,z", "{c:2,z:1}", "{a:1,c:2}");
        back("R={a:num(5..57)};", ShapeLang.SPLIT, 10, "a,z,b", "{b:7,z:5}", "{a:57}");
        back("R={a:num(5..57)};", ShapeLang.SPLIT, 10, "a,z,b", "{b:9,z:5}", "{a:57}");
        back("R={a:num(5..57)};", ShapeLang.SPLIT, 10, "a,z,b", "{b:1,z:0}", "{a:5}");
        back("R={a:num(1..3),b:num(2..4)};", ShapeLang.JOIN, 10, "a,b,c", "{c:23}", "{a:2,b:3}");
        back("R={a:num(1..3),b:num(2..4)};", ShapeLang.JOIN, 10, "a,b,c", "{c:29}", "{a:2,b:4}");
        back("R={a:num(1..3),b:num(2..4)};", ShapeLang.JOIN, 10, "a,b,c", "{c:30}", "{a:3,b:2}");
        back("R={f?:num,r:{z:num}};", ShapeLang.MOVE, 0, "f,r", "{r:{f:1,z:2}}", "{f:1,r:{z:2}}");
        back("R={r:{f?:num,z:num}};", ShapeLang.LIFT, 0, "r,f", "{f:1,r:{z:2}}", "{r:{f:1,z:2}}");
        back("R={a?:num(2..4)};", ShapeLang.RETYPE, 0, "a:num=3", "{a:4}", "{a:4}");
        back("R={a?:num(2..4)};", ShapeLang.RETYPE, 0, "a:num=3", "{a:5}", "{a:2}");
        back("R={a?:num(2..4)};", ShapeLang.RETYPE, 0, "a:num=3", "{}", "{}");
        back("R={a?:num};", ShapeLang.WRAP, 0, "a,T", "{a:T(5)}", "{a:5}");
        back("R={a?:T(num)};", ShapeLang.UNWRAP, 0, "a", "{a:5}", "{a:T(5)}");
        back("R={a:num(3..9)};", ShapeLang.RELAX, 0, "a", "{}", "{a:3}");
        back("R={a:num(3..9)};", ShapeLang.RELAX, 0, "a", "{a:5}", "{a:5}");
        back("R={a?:num};", ShapeLang.REQUIRE, 0, "a=7", "{a:1}", "{a:1}");
    }

    private static void deep() {
        // everywhere in the value, the inner records first
        ahead("R={a:num,k:[@R]};", ShapeLang.RENAME, 0, "a,z", "{a:1,k:[{a:2,k:[]},{a:3,k:[]}]}", "{k:[{k:[],z:2},{k:[],z:3}],z:1}");
        ahead("R={k?:<@R>|T(@R)};", ShapeLang.ADD, 0, "a:num=1", "{k:<'x':{k:T({})}>}", "{a:1,k:<'x':{a:1,k:T({a:1})}>}");
        ahead("R={k?:@R|num,n:num};", ShapeLang.ADD, 0, "a:num=(k+n)", "{k:{k:4,n:1},n:2}", "{a:2,k:{a:5,k:4,n:1},n:2}");
        // another { } that the value is of first is left as it is
        for (int i = 0; i < 2; i++) {
            ShapeLang x = new ShapeLang();
            Check.begin(x, i == 0 ? "R=[{a:num}|@S];S={a:num|text};" : "R=[@S|{a:num}];S={a:num|text};");
            Check.change(x, 0, ShapeLang.RENAME, 1, 0, "a,b");
            Check.put(x, 0, "[{a:2},{a:''}]");
            x.convert(0, 1, 0, 0);
            C.is("P22 the first part of which it is", Check.show(x, 0), i == 0 ? "[{a:2},{b:''}]" : "[{b:2},{b:''}]");
        }
        // the inner value is converted before RETYPE looks at it
        ahead("R={a:{x:@S},b:num};S={};", ShapeLang.RETYPE, 0, "a:{x:{}}=(1)", "{a:{x:{}},b:1}", "{a:{x:{}},b:1}");
    }

    private static void ways() {
        ShapeLang x = new ShapeLang();
        Check.begin(x, "R={a:num};");
        Check.change(x, 0, ShapeLang.RENAME, 0, 0, "a,b");
        Check.change(x, 0, ShapeLang.ADD, 0, 0, "c:num=4");
        Check.change(x, 1, ShapeLang.WRAP, 0, 0, "b,T");
        Check.begin(x, "R={a:num};");
        Check.put(x, 0, "{b:T(7)}");
        C.is("P22 over the common one", x.convert(3, 2, 0, 0), 3);
        C.is("P22 its text", Check.show(x, 0), "{a:7,c:4}");
        C.is("P23 over the common one", x.losses(2, 3), 1);
        C.is("P23 the other way", x.losses(3, 2), 0);
        C.is("P23 itself", x.losses(2, 2), 0);
        C.is("P23 no way", x.losses(0, 4), ShapeLang.NONE);
        C.noState("P22 no way", () -> x.convert(2, 4, 0, 0));
        C.is("P22 itself", x.convert(2, 2, 0, 5), 3);
        Check.put(x, 6, "{a:''}");
        C.noState("P22 not of the root", () -> x.convert(0, 0, 6, 0));
        // a record 12 deep that gets a list in it
        String nest = "[".repeat(11);
        Check.begin(x, "R=[@R]|@S;S={a:num};");
        Check.change(x, 5, ShapeLang.WRAP, 1, 0, "a,T");
        Check.put(x, 1, nest + "{a:1}" + "]".repeat(11));
        C.noState("P22 too deep", () -> x.convert(5, 6, 1, 1));
        C.is("P22 it stays", Check.show(x, 1), nest + "{a:1}" + "]".repeat(11));
        Check.put(x, 1, nest.substring(1) + "{a:1}" + "]".repeat(10));
        C.is("P22 just deep enough", x.convert(5, 6, 1, 1), 13);
        Check.change(x, 5, ShapeLang.ADD, 1, 0, "b:[num]=[1,2,3,4,5,6,7,8]");
        String five = "[{a:1},{a:1},{a:1},{a:1},{a:1}]";
        Check.put(x, 2, five);
        C.is("P22 56 nodes", x.convert(5, 7, 2, 3), 56);
        Check.put(x, 2, "[{a:1},{a:1},{a:1},{a:1},{a:1},[[],[],[]]]");
        C.is("P22 60 nodes", x.convert(5, 7, 2, 3), 60);
        Check.put(x, 2, "[{a:1},{a:1},{a:1},{a:1},{a:1},[[],[],[],[]]]");
        C.noState("P22 61 nodes", () -> x.convert(5, 7, 2, 3));
    }

    private static void forms() {
        form("R=num;", "-9999", "000000000000000");
        form("R=num;", "0", "010011100001111");
        form("R=num(3..3);", "3", "");
        form("R=num(0..4);", "4", "100");
        form("R=num|text;", "0", "0" + "010011100001111");
        form("R=num(1..1)|text|[num(0..1)];", "1", "00");
        form("R=num(1..1)|text|[num(0..1)];", "''", "01" + "0000");
        form("R=num(1..1)|text|[num(0..1)];", "'az'", "01" + "0010" + "00000" + "11001");
        form("R=num(1..1)|text|[num(0..1)];", "[0,1,1]", "10" + "0011" + "011");
        form("R=[num(0..1);2..3];", "[0,1]", "0" + "01");
        form("R=[num(0..1);3..3];", "[0,1,0]", "010");
        form("R={z:num(0..1),a?:num(0..3),b?:num(0..3)};", "{a:2,z:1}", "1" + "10" + "0" + "1");
        form("R=A(num(0..1))|B(num(0..3));", "B(2)", "1" + "10");
        form("R=<num(0..1)>;", "<'':1,'c':0>", "0010" + "0000" + "1" + "0001" + "00010" + "0");
        form("R=@S|text;S=num(0..1)|num(4..5);", "5", "0" + "1" + "1");
        form("R={a:num(0..1),n?:@R};", "{a:1,n:{a:0}}", "1" + "1" + "0" + "0");
        form("R=num(0..5)|num(4..9);", "5", "0" + "101");
        noForm("R=num(0..5)|num(4..9);", "1" + "001");
        noForm("R=num(0..5)|num(4..9);", "1" + "110");
        noForm("R=num(0..4);", "101");
        noForm("R=num(0..4);", "10");
        noForm("R=num(0..4);", "1000");
        noForm("R=num(0..0)|num(1..1)|num(2..2);", "11");
        noForm("R=text;", "1001" + "00000".repeat(9));
        noForm("R=text;", "0001" + "11010");
        noForm("R=text(a);", "0001" + "00001");
        noForm("R=[num(0..0);2..4];", "11");
        noForm("R=<num(0..0)>;", "0010" + "0001" + "00001" + "0001" + "00000");
        noForm("R=<num(0..0)>;", "0010" + "0001" + "00000" + "0001" + "00000");
        noForm("R=<num(0..0)>;", "1001");
        noForm("R=none;", "");
        noForm("R={a:@R};", "");
        noForm("R=[@R;8..8]|num(0..0);", "0".repeat(40));
        form("R=[num(0..0)|num];", "[0,1]", "0010" + "0" + "1" + "010011100010000");
    }

    private static void calls() {
        ShapeLang x = new ShapeLang();
        Check.begin(x, "R={a:num(0..9)};");
        Check.put(x, 0, "{a:1}");
        Check.put(x, 1, "{a:10}");
        C.noSuch("P22 from", () -> x.convert(1, 0, 0, 0));
        C.noSuch("P22 to", () -> x.convert(0, 1, 0, 0));
        C.noSuch("P22 slot", () -> x.convert(0, 0, 8, 0));
        C.noSuch("P22 target", () -> x.convert(0, 0, 0, -1));
        C.noSuch("P22 target first", () -> x.convert(0, 0, 3, 8));
        C.noState("P22 empty", () -> x.convert(0, 0, 3, 0));
        C.noSuch("P23 from", () -> x.losses(-1, 0));
        C.noSuch("P23 to", () -> x.losses(0, 1));
        C.noSuch("P24 version", () -> x.encode(1, 0));
        C.noSuch("P24 slot", () -> x.encode(0, 8));
        C.noState("P24 empty", () -> x.encode(0, 3));
        x.show(0);
        C.noState("P24 not of the root", () -> x.encode(0, 1));
        C.is("P24 the out stays", Check.out(x), "{a:1}");
        Check.feedBits(x, "0011");
        C.noSuch("P25 version", () -> x.decode(1, 4801, 0));
        C.noSuch("P25 slot", () -> x.decode(0, 4801, 8));
        C.noArgument("P25 bits below 0", () -> x.decode(0, -1, 0));
        C.noArgument("P25 bits 4801", () -> x.decode(0, 4801, 0));
        C.is("P25 the tape stayed", x.decode(0, 4, 2), 2);
        C.is("P25 its value", Check.show(x, 2), "{a:3}");
        Check.feedBits(x, "0011");
        C.noState("P25 too few bits", () -> x.decode(0, 9, 2));
        C.noState("P25 used up", () -> x.decode(0, 4, 2));
        Check.feed(x, "[");
        C.noState("a fault", () -> x.put(2));
        Check.feedBits(x, "0100");
        x.decode(0, 4, 2);
        C.is("P3 a form is no text", x.fault(), 1);
        // 12 values around an empty list can be in a slot, though no text tells them
        int v = Check.begin(x, "R=[@R];");
        Check.feedBits(x, "0001".repeat(12) + "0000");
        C.is("P25 13 lists", x.decode(v, 52, 3), 13);
        C.is("P8 its text", Check.show(x, 3), "[".repeat(13) + "]".repeat(13));
        Check.feedBits(x, "0001".repeat(13) + "0000");
        C.noState("P25 14 lists", () -> x.decode(v, 56, 3));
    }
}
