/** Promises 10 to 16: begin, change, versions, parent, schema, signature, isPlain, and the faults of schemas and changes. */
public final class VersionTest {
    private static final Check C = new Check();

    private static void good(String text, String told) {
        ShapeLang x = new ShapeLang();
        C.is("P10 begin " + text, Check.begin(x, text), 0);
        C.is("P3 no fault of " + text, x.fault(), ShapeLang.NONE);
        C.is("P14 schema of " + text, Check.schema(x, 0), told);
        C.is("P13 no parent", x.parent(0), ShapeLang.NONE);
        int sign = 7;
        for (int i = 0; i < told.length(); i++) {
            sign = (int) ((sign * 31L + told.charAt(i)) % 1000003);
        }
        C.is("P15 signature of " + text, x.signature(0), sign);
    }

    private static void bad(String text, int fault) {
        ShapeLang x = new ShapeLang();
        Check.feed(x, text);
        C.noState("P10 fault of " + text, x::begin);
        C.is("P3 fault of " + text, x.fault(), fault);
        C.is("P10 nothing began", x.versions(), 0);
    }

    private static void odd(String text) {
        bad(text, text.length() + 1);
    }

    /** The schema that comes of a change, a fault as a number, or "refused". */
    private static String changed(String schema, int kind, int definition, int n, String text) {
        ShapeLang x = new ShapeLang();
        Check.begin(x, schema);
        Check.feed(x, text);
        try {
            int v = x.change(0, kind, definition, n);
            C.is("P13 parent", x.parent(v), 0);
            C.is("P12 versions", x.versions(), 2);
            return Check.schema(x, v);
        } catch (IllegalStateException e) {
            C.is("P12 versions", x.versions(), 1);
            return x.fault() == ShapeLang.NONE ? "refused" : "" + x.fault();
        }
    }

    private static void change(String schema, int kind, int n, String text, String due) {
        C.is("P11 " + schema + " " + kind + " " + n + " " + text, changed(schema, kind, 0, n, text), due);
    }

    private static void plain(String schema, int due) {
        ShapeLang x = new ShapeLang();
        Check.begin(x, schema);
        C.is("P16 " + schema, x.isPlain(0) ? 1 : 0, due);
    }

    public static void main(String[] args) {
        schemas();
        changes();
        refusals();
        calls();
        plain("R=num|text|[num]|{}|A(num)|<num>;", 1);
        plain("R=num(0..5)|num(6..9);", 1);
        plain("R=num(0..5)|num(5..9);", 0);
        plain("R=text(a*)|text(b*);", 0);
        plain("R=text(aa*)|text(bb*);", 1);
        plain("R=[num]|[text];", 0);
        plain("R=[num;1..8]|[text];", 1);
        plain("R=A(num)|A(text);", 1);
        plain("R=A(num)|A(num(3..3));", 0);
        plain("R={a:num}|{b:num};", 1);
        plain("R={a?:num}|{b?:num};", 0);
        plain("R=<num>|<text>;", 0);
        plain("R={x:@A|@B};A=num;B=num(1..1);", 0);
        plain("R={x:[num|num]};", 0);
        plain("R=none|none|num;", 1);
        C.end("VersionTest");
    }

    private static void schemas() {
        good("R=num;", "R=num;");
        good("R=num(-9999..9999);", "R=num;");
        good("R=num(0..9999);", "R=num(0..9999);");
        good("Root={z:num,b?:text,aa:none};", "Root={b?:text,z:num,aa:none};");
        good("R=[num;0..8];", "R=[num];");
        good("R=[num;0..7];", "R=[num;0..7];");
        good("R=text(ab*c?.)|text|<@R>|A(@R);", "R=text(ab*c?.)|text|<@R>|A(@R);");
        good("R=@A|@B;A=num;B=[@R];", "R=@A|@B;A=num;B=[@R];");
        good("R=[num]|[text]|{}|{a:num}|A(num)|A(text);", "R=[num]|[text]|{}|{a:num}|A(num)|A(text);");
        good("R={a:[num]|[text],b:<num>|<text>};", "R={a:[num]|[text],b:<num>|<text>};");
        good("R=text(a*bc);", "R=text(a*bc);");
        good("R=text(abcdefgh);", "R=text(abcdefgh);");
        bad("", 0);
        bad("R", 1);
        bad("r=num;", 0);
        bad("R=", 2);
        bad("R=num", 5);
        bad("R=numb;", 5);
        bad("R=nun;", 4);
        bad("R=nx;", 3);
        bad("R=num(0..);", 9);
        bad("R=num(0.5);", 8);
        bad("R=num(00..5);", 7);
        bad("R=num(12345..5);", 10);
        bad("R=num(-0..5);", 7);
        bad("R=text();", 7);
        bad("R=text(*);", 7);
        bad("R=text(a**);", 9);
        bad("R=[num;1];", 8);
        bad("R=[];", 3);
        bad("R={a?num};", 5);
        bad("R={a:num,};", 9);
        bad("R={abcde:num};", 7);
        bad("R=Abcde(num);", 6);
        bad("R=A();", 4);
        bad("R=A;", 3);
        bad("R=@a;", 3);
        bad("R=num;x", 6);
        bad("R=num||text;", 6);
        bad("R=" + "[".repeat(13) + "num" + "]".repeat(13) + ";", 14);
        bad("R=" + "[".repeat(12) + "num(0..1)" + "]".repeat(12) + ";", 17);
        bad("R=" + "[".repeat(12) + "A(num)" + "]".repeat(12) + ";", 14);
        good("R=" + "[".repeat(12) + "num|text|none|@R" + "]".repeat(12) + ";", "R=" + "[".repeat(12) + "num|text|none|@R" + "]".repeat(12) + ";");
        odd("R=num(5..4);");
        odd("R=[num;3..2];");
        odd("R=[num;0..9];");
        odd("R=[num;-1..3];");
        odd("R=text(abcdefghi);");
        odd("R=text(a*bcd);");
        odd("R=text(a?bc*d);");
        odd("R={a:num,a:text};");
        odd("R={a:num,b:num,c:num,d:num,e:num,f:num,g:num};");
        odd("R=num;R=text;");
        odd("R=@S;");
        odd("R=@R;");
        odd("R=num|@S;S=@T;T=text|@R;");
        odd("A=num;B=num;C=num;D=num;E=num;");
        odd("R=num|num|num|num|num|num|num;");
        odd("R=num|@A|@A;A=num|num|num;");
        odd("R=[num]|[num]|[num];");
        odd("R={}|{}|{};");
        odd("R=<num>|<num>|<num>;");
        odd("R=A(num)|A(num)|A(num);");
        odd("R={a:[num]|[text],b:<num>|<text>,c:{}|{}};");
        odd("R={a:@A,b:@A,c:num};A=[num]|[text];");
        good("R={a:@A,b:num};A=[num]|[text];", "R={a:@A,b:num};A=[num]|[text];");
        odd("R=[@R]|[num];");
        odd("R={a:@A};A={b:@R}|{};");
        StringBuilder many = new StringBuilder("R=");
        for (int i = 0; i < 4; i++) {
            many.append(i == 0 ? "" : "|").append((char) ('A' + i)).append("(num|num|num|num|num)");
        }
        good(many + ";", many + ";");
        odd(many + "|num;");
    }

    private static void changes() {
        change("R={a:num};", ShapeLang.ADD, 0, "b:num=1", "R={a:num,b:num};");
        change("R={b:num};", ShapeLang.ADD, 0, "c?:[num;0..8]=[],a:text='x',aa:num=(b+1)", "R={a:text,b:num,c?:[num],aa:num};");
        change("R={};", ShapeLang.ADD, 0, "a:num=(b),b:num=(c*2),c:num=3", "R={a:num,b:num,c:num};");
        change("R={a:num,b?:text};", ShapeLang.DROP, 0, "b=''", "R={a:num};");
        change("R={a:num,b:num};", ShapeLang.DROP, 0, "a=(b+b)", "R={b:num};");
        change("R={a?:num,b:num};", ShapeLang.RENAME, 0, "a,c", "R={b:num,c?:num};");
        change("R={a:num};", ShapeLang.RENAME, 0, "a,a", "R={a:num};");
        change("R={f:num(7..47)};", ShapeLang.SPLIT, 10, "f,g,h", "R={g:num(0..4),h:num(0..9)};");
        change("R={f:num(7..47)};", ShapeLang.SPLIT, 10, "f,f,g", "R={f:num(0..4),g:num(0..9)};");
        change("R={g:num(2..4),h:num(1..8)};", ShapeLang.JOIN, 10, "g,h,f", "R={f:num(21..48)};");
        change("R={g:num(2..4),h:num(1..8)};", ShapeLang.JOIN, 10, "g,h,h", "R={h:num(21..48)};");
        change("R={f?:num,r:{z:text}};", ShapeLang.MOVE, 0, "f,r", "R={r:{f?:num,z:text}};");
        change("R={r:{f?:num,z:text}};", ShapeLang.LIFT, 0, "r,f", "R={f?:num,r:{z:text}};");
        change("R={a?:num};", ShapeLang.RETYPE, 0, "a:text|num='q'", "R={a?:text|num};");
        change("R={a?:num|text};", ShapeLang.WRAP, 0, "a,Tag", "R={a?:Tag(num|text)};");
        change("R={a?:Tag(num|text)};", ShapeLang.UNWRAP, 0, "a", "R={a?:num|text};");
        change("R={a:num};", ShapeLang.RELAX, 0, "a", "R={a?:num};");
        change("R={a?:num};", ShapeLang.REQUIRE, 0, "a=5", "R={a:num};");
        C.is("P11 other definition", changed("R=[@S];S={a:num};", ShapeLang.RENAME, 1, 0, "a,b"), "R=[@S];S={b:num};");
        // faults of changes
        change("R={a:num};", ShapeLang.ADD, 0, "", "0");
        change("R={a:num};", ShapeLang.ADD, 0, "b:num", "5");
        change("R={a:num};", ShapeLang.ADD, 0, "b:num=", "6");
        change("R={a:num};", ShapeLang.ADD, 0, "b:num=1,", "8");
        change("R={a:num};", ShapeLang.ADD, 0, "b:num=(1+)", "9");
        change("R={a:num};", ShapeLang.ADD, 0, "b:num=(1--5)", "R={a:num,b:num};");
        change("R={a:num};", ShapeLang.ADD, 0, "b:num=((a))", "R={a:num,b:num};");
        change("R={a:num};", ShapeLang.ADD, 0, "b:num=(" + "(".repeat(12) + "1", "18");
        change("R={a:num};", ShapeLang.ADD, 0, "b:num=(1+1+1+1+1)", "18");
        change("R={a:num};", ShapeLang.ADD, 0, "b:num=(1+1*1-a)", "R={a:num,b:num};");
        change("R={a:num};", ShapeLang.ADD, 0, "b:num(3..1)=1", "14");
        change("R={a:num};", ShapeLang.ADD, 0, "b:[num;0..9]=1", "15");
        change("R={a:num};", ShapeLang.ADD, 0, "b:text(abcdefghi)=1", "20");
        change("R={a:num};", ShapeLang.ADD, 0, "b:num={b:1,a:1}", "16");
        change("R={a:num};", ShapeLang.ADD, 0, "b:{x:num,x:num}=1", "refused");
        change("R={a:num};", ShapeLang.ADD, 0, "b:@S=1", "refused");
        change("R={a:num};", ShapeLang.RENAME, 0, "a", "1");
        change("R={a:num};", ShapeLang.RENAME, 0, "a,b,c", "3");
        change("R={a:num};", ShapeLang.SPLIT, 5, "a,b", "3");
        change("R={a:num};", ShapeLang.WRAP, 0, "a,b", "2");
        change("R={a:num};", ShapeLang.RETYPE, 0, "a=1", "1");
        change("R={a:num};", ShapeLang.RELAX, 0, "abcde", "4");
    }

    private static void refusals() {
        String no = "refused";
        change("R={a:num}|{b:num};", ShapeLang.RENAME, 0, "a,c", no);
        change("R=@S;S={a:num};", ShapeLang.RENAME, 0, "a,c", no);
        change("R=num;", ShapeLang.ADD, 0, "a:num=1", no);
        change("R={a:num};", ShapeLang.ADD, 0, "a:num=1", no);
        change("R={a:num};", ShapeLang.ADD, 0, "b:num=1,b:num=2", no);
        change("R={a:num,b:num,c:num,d:num,e:num,f:num};", ShapeLang.ADD, 0, "g:num=1", no);
        change("R={a:num};", ShapeLang.ADD, 0, "b:none=1", no);
        change("R={a:num};", ShapeLang.ADD, 0, "b:@R=1", no);
        change("R={a:num};", ShapeLang.ADD, 0, "b:num=(c)", no);
        change("R={a:num};", ShapeLang.ADD, 0, "b:num=(b)", no);
        change("R={a:num};", ShapeLang.ADD, 0, "b:num=(c),c:num=(b)", no);
        change("R={a:num};", ShapeLang.ADD, 0, "b:num|num|num|num|num|num|num=1", no);
        change("R={a:num};", ShapeLang.ADD, 0, "b:num='x'", "R={a:num,b:num};");
        change("R={a:num};", ShapeLang.DROP, 0, "b=1", no);
        change("R={a:num};", ShapeLang.DROP, 0, "a='x'", no);
        change("R={a:num};", ShapeLang.DROP, 0, "a=(a)", no);
        change("R={a:num};", ShapeLang.DROP, 0, "a=(b)", no);
        change("R={a:num(0..3)};", ShapeLang.DROP, 0, "a=4", no);
        change("R={a?:none};", ShapeLang.DROP, 0, "a=4", no);
        change("R={a:num,b:num};", ShapeLang.RENAME, 0, "a,b", no);
        change("R={a:num,b:num};", ShapeLang.RENAME, 0, "c,d", no);
        change("R={f?:num(0..9)};", ShapeLang.SPLIT, 2, "f,g,h", no);
        change("R={f:num};", ShapeLang.SPLIT, 2, "f,g,h", no);
        change("R={f:num(-1..9)};", ShapeLang.SPLIT, 2, "f,g,h", no);
        change("R={f:num(0..9)|text};", ShapeLang.SPLIT, 2, "f,g,h", no);
        change("R={f:num(0..9)};", ShapeLang.SPLIT, 2, "f,g,g", no);
        change("R={f:num(0..9),g:num};", ShapeLang.SPLIT, 2, "f,g,h", no);
        change("R={g:num(0..9),h:num(0..9)};", ShapeLang.JOIN, 10, "g,g,f", no);
        change("R={g:num(0..9),h:num(0..9)};", ShapeLang.JOIN, 9, "g,h,f", no);
        change("R={g:num(0..100),h:num(0..9)};", ShapeLang.JOIN, 100, "g,h,f", no);
        change("R={g:num(0..99),h:num(0..99)};", ShapeLang.JOIN, 100, "g,h,f", "R={f:num(0..9999)};");
        change("R={g:num(0..9),h?:num(0..9)};", ShapeLang.JOIN, 10, "g,h,f", no);
        change("R={g:num(0..9),h:num(0..9),f:num};", ShapeLang.JOIN, 10, "g,h,f", no);
        change("R={f:num,r?:{}};", ShapeLang.MOVE, 0, "f,r", no);
        change("R={f:num,r:{f:num}};", ShapeLang.MOVE, 0, "f,r", no);
        change("R={f:num,r:@S};S={};", ShapeLang.MOVE, 0, "f,r", no);
        change("R={r:{}};", ShapeLang.MOVE, 0, "r,r", no);
        change("R={f:num,r:{f:num}};", ShapeLang.LIFT, 0, "r,f", no);
        change("R={r:{f:num}};", ShapeLang.LIFT, 0, "r,g", no);
        change("R={r?:{f:num}};", ShapeLang.LIFT, 0, "r,f", no);
        change("R={a:none|num};", ShapeLang.RETYPE, 0, "a:none=1", no);
        change("R={a?:none};", ShapeLang.RETYPE, 0, "a:num=1", no);
        change("R={a:num};", ShapeLang.RETYPE, 0, "a:text=1", no);
        change("R={a:num};", ShapeLang.RETYPE, 0, "a:text=(1)", "R={a:text};");
        change("R={a:A(num)|text};", ShapeLang.UNWRAP, 0, "a", no);
        change("R={a?:num};", ShapeLang.RELAX, 0, "a", no);
        change("R={a:none};", ShapeLang.RELAX, 0, "a", no);
        change("R={a:num};", ShapeLang.REQUIRE, 0, "a=1", no);
        change("R={a?:num};", ShapeLang.REQUIRE, 0, "a='x'", no);
        change("R={a?:num};", ShapeLang.REQUIRE, 0, "a=(a)", no);
        // a { } that would stand deeper than 12 brackets
        String deep = "R={f:" + "[".repeat(11) + "num" + "]".repeat(11) + ",r:{}};";
        change(deep, ShapeLang.MOVE, 0, "f,r", no);
        change(deep, ShapeLang.WRAP, 0, "f,T", no);
        change(deep, ShapeLang.WRAP, 0, "r,T", deep.replace("r:{}", "r:T({})"));
    }

    private static void calls() {
        ShapeLang x = new ShapeLang();
        C.noSuch("P13 none", () -> x.parent(0));
        Check.begin(x, "R={a:num};");
        Check.feed(x, "a,b");
        C.noSuch("P11 version", () -> x.change(1, ShapeLang.RENAME, 0, 0));
        C.noSuch("P11 version below 0", () -> x.change(-1, 99, 0, 0));
        C.noSuch("P11 definition", () -> x.change(0, 99, 1, 0));
        C.noSuch("P11 definition below 0", () -> x.change(0, ShapeLang.RENAME, -1, 0));
        C.noArgument("P11 kind 12", () -> x.change(0, 12, 0, 0));
        C.noArgument("P11 kind -1", () -> x.change(0, -1, 0, 0));
        C.noArgument("P11 n of RENAME", () -> x.change(0, ShapeLang.RENAME, 0, 2));
        C.noArgument("P11 n 1", () -> x.change(0, ShapeLang.SPLIT, 0, 1));
        C.noArgument("P11 n 101", () -> x.change(0, ShapeLang.JOIN, 0, 101));
        C.is("P11 the tape stayed", x.change(0, ShapeLang.RENAME, 0, 0), 1);
        C.noSuch("P14 version", () -> x.schema(2));
        C.noSuch("P15 version", () -> x.signature(-1));
        C.noSuch("P16 version", () -> x.isPlain(2) ? 1 : 0);
        C.noSuch("P13 version", () -> x.parent(2));
        for (int v = 2; v < 12; v++) {
            C.is("P12 before", x.versions(), v);
            C.is("P10 begin", Check.begin(x, "R=num;"), v);
        }
        Check.feed(x, "R=num;");
        C.noState("P10 the 13th", x::begin);
        C.is("P10 no fault", x.fault(), ShapeLang.NONE);
        Check.feed(x, "R=nun;");
        C.noState("P10 the text is looked at first", x::begin);
        C.is("P10 its fault", x.fault(), 4);
        Check.feed(x, "a,");
        C.noState("P11 the 13th", () -> x.change(0, ShapeLang.RENAME, 0, 0));
        C.is("P11 its fault", x.fault(), 2);
        Check.feed(x, "a,z");
        C.noState("P11 the 13th again", () -> x.change(0, ShapeLang.RENAME, 0, 0));
        C.is("P11 used up", x.feed(0, 1), 1);
        C.is("P12 twelve", x.versions(), 12);
        C.is("P14 the last one stays", Check.schema(x, 11), "R=num;");
    }
}
