/** Promises 26 to 29: query, result, shapeOf, rewrite, and the faults of paths. */
public final class QueryTest {
    private static final Check C = new Check();

    private static void query(String schema, String value, String path, String... due) {
        ShapeLang x = new ShapeLang();
        Check.begin(x, schema);
        Check.put(x, 2, value);
        Check.feed(x, path);
        String what = path + " in " + value + " of " + schema;
        C.is("P26 " + what, x.query(0, 2), due.length);
        x.clear(2);
        for (int i = 0; i < due.length; i++) {
            C.is("P27 bytes", x.result(i), due[i].length());
            C.is("P27 result of " + what, Check.out(x), due[i]);
        }
        C.noSuch("P27 behind the last", () -> x.result(due.length));
        C.noSuch("P27 below 0", () -> x.result(-1));
    }

    private static void shape(String schema, String path, String due) {
        ShapeLang x = new ShapeLang();
        Check.begin(x, schema);
        Check.feed(x, path);
        C.is("P28 bytes", x.shapeOf(0), due.length());
        C.is("P28 " + path + " in " + schema, Check.out(x), due);
    }

    private static void fault(String path, int due) {
        ShapeLang x = new ShapeLang();
        Check.begin(x, "R={a:num};");
        Check.feed(x, path);
        C.noState("P28 " + path, () -> x.shapeOf(0));
        C.is("P3 fault of " + path, x.fault(), due);
    }

    /** The path rewritten over one change, or "cannot". */
    private static String over(String schema, int definition, int kind, int n, String text, String path, boolean forward) {
        ShapeLang x = new ShapeLang();
        Check.begin(x, schema);
        Check.change(x, 0, kind, definition, n, text);
        Check.feed(x, path);
        try {
            int bytes = forward ? x.rewrite(0, 1) : x.rewrite(1, 0);
            C.is("P29 bytes", bytes, x.length());
            return Check.out(x);
        } catch (IllegalStateException e) {
            C.is("P29 no fault", x.fault(), ShapeLang.NONE);
            return "cannot";
        }
    }

    private static void ahead(String schema, int kind, int n, String text, String path, String due) {
        C.is("P29 " + schema + " " + kind + " " + text + " " + path, over(schema, 0, kind, n, text, path, true), due);
    }

    private static void back(String schema, int kind, int n, String text, String path, String due) {
        C.is("P29 back " + schema + " " + kind + " " + text + " " + path, over(schema, 0, kind, n, text, path, false), due);
    }

    public static void main(String[] args) {
        query("R={a:num,b?:text};", "{a:1,b:'x'}", ".a", "1");
        query("R={a:num,b?:text};", "{a:1}", ".b");
        query("R=[num|{a:num}];", "[1,{a:2},3,{a:4}]", "[].a", "2", "4");
        query("R=[[num]|num];", "[[1,2],3,[],[4]]", "[][]", "1", "2", "4");
        query("R=<num>;", "<'':3,'b':1>", "<>", "3", "1");
        query("R=A(@R)|B(num);", "A(A(B(5)))", "!A!A", "B(5)");
        query("R=A(@R)|B(num);", "A(A(B(5)))", "!A!A!B", "5");
        query("R=A(@R)|B(num);", "A(A(B(5)))", "!A!B");
        query("R={a:[<T({b:num})>]};", "{a:[<'x':T({b:1}),'y':T({b:2})>,<'z':T({b:3})>]}", ".a[]<>!T.b", "1", "2", "3");
        shape("R={a:num,b?:text|@R};", ".b", "text|@R");
        shape("R={a:num(-9999..9999),b?:text|@R};", ".b.a", "num");
        shape("R={a:num,c:text}|{a:text|num};", ".a", "num|text");
        shape("R=[num|text]|[text|num|[num;0..8]];", "[]", "num|text|[num]");
        shape("R=@S|@T;S=[{b:num,a:num}];T=[{a:num,b:num}|@S];", "[]", "{a:num,b:num}|@S");
        shape("R=@S|@T;S=[{b:num,a:num}];T=[{a:num,b:num}|@S];", "[][]", "{a:num,b:num}");
        shape("R={a:none};", ".a", "none");
        shape("R=[@R];", "[][][][][][][][]", "@R");
        fault("", 0);
        fault(".", 1);
        fault(".A", 1);
        fault(".abcde", 5);
        fault("a", 0);
        fault(".a[", 3);
        fault(".a[.", 3);
        fault(".a<]", 3);
        fault("!", 1);
        fault("!a", 1);
        fault("!Abcde", 5);
        fault(".a ", 2);
        fault(".a.a.a.a.a.a.a.a.a", 19);
        fault(".b", ShapeLang.NONE);
        fault("[]", ShapeLang.NONE);
        fault(".a.a", ShapeLang.NONE);
        forward();
        backward();
        others();
        calls();
        C.end("QueryTest");
    }

    private static void forward() {
        ahead("R={a:num,b?:@R};", ShapeLang.ADD, 0, "c:num=0", ".b.b.a", ".b.b.a");
        ahead("R={a:num,b?:@R};", ShapeLang.DROP, 0, "a=0", ".b.b", ".b.b");
        ahead("R={a:num,b?:@R};", ShapeLang.DROP, 0, "a=0", ".b.a", "cannot");
        ahead("R={a:num,b?:@R};", ShapeLang.RENAME, 0, "b,c", ".b.b.a", ".c.c.a");
        ahead("R={a:num,b?:@R};", ShapeLang.RENAME, 0, "b,b", ".b.b.a", ".b.b.a");
        ahead("R={a:num(0..9)};", ShapeLang.SPLIT, 2, "a,b,c", ".a", "cannot");
        ahead("R={a:num(0..9)};", ShapeLang.SPLIT, 2, "a,a,c", ".a", "cannot");
        ahead("R={a:num(0..9),b:num(0..1),c:num};", ShapeLang.JOIN, 2, "a,b,d", ".a", "cannot");
        ahead("R={a:num(0..9),b:num(0..1),c:num};", ShapeLang.JOIN, 2, "a,b,d", ".b", "cannot");
        ahead("R={a:num(0..9),b:num(0..1),c:num};", ShapeLang.JOIN, 2, "a,b,d", ".c", ".c");
        ahead("R={f:[@R],r:{g:num}};", ShapeLang.MOVE, 0, "f,r", ".f[].f", ".r.f[].r.f");
        ahead("R={f:[@R],r:{g:num}};", ShapeLang.MOVE, 0, "f,r", ".r", ".r");
        ahead("R={f:[@R],r:{g:num}};", ShapeLang.MOVE, 0, "f,r", ".f[].r.g", ".r.f[].r.g");
        ahead("R={r:{f:[@R],g:num}};", ShapeLang.LIFT, 0, "r,f", ".r.f[].r.f", ".f[].f");
        ahead("R={r:{f:[@R],g:num}};", ShapeLang.LIFT, 0, "r,f", ".r.f[].r.g", ".f[].r.g");
        ahead("R={r:{f:[@R],g:num}};", ShapeLang.LIFT, 0, "r,f", ".r", ".r");
        ahead("R={a:[num]};", ShapeLang.RETYPE, 0, "a:text=''", ".a", ".a");
        ahead("R={a:[num]};", ShapeLang.RETYPE, 0, "a:[num]=[]", ".a[]", "cannot");
        ahead("R={a:[num]};", ShapeLang.WRAP, 0, "a,T", ".a[]", ".a!T[]");
        ahead("R={a:T([num])};", ShapeLang.UNWRAP, 0, "a", ".a!T[]", ".a[]");
        ahead("R={a:T([num])};", ShapeLang.UNWRAP, 0, "a", ".a", ".a");
        ahead("R={a:num};", ShapeLang.RELAX, 0, "a", ".a", ".a");
        ahead("R={a?:num,b:num};", ShapeLang.REQUIRE, 0, "a=0", ".a", "cannot");
        ahead("R={a?:num,b:num};", ShapeLang.REQUIRE, 0, "a=0", ".b", ".b");
        // more than 8 steps
        ahead("R={f:@R|num,r:{}};", ShapeLang.MOVE, 0, "f,r", ".f.f.f.f", ".r.f.r.f.r.f.r.f");
        ahead("R={f:@R|num,r:{}};", ShapeLang.MOVE, 0, "f,r", ".f.f.f.f.f", "cannot");
    }

    private static void backward() {
        back("R={a:num};", ShapeLang.ADD, 0, "c:num=0,d:num=0", ".d", "cannot");
        back("R={a:num};", ShapeLang.ADD, 0, "c:num=0,d:num=0", ".a", ".a");
        back("R={a:num,b:num};", ShapeLang.DROP, 0, "a=0", ".b", ".b");
        back("R={a:num,b?:@R};", ShapeLang.RENAME, 0, "b,c", ".c.c.a", ".b.b.a");
        back("R={a:num(0..9),d:num};", ShapeLang.SPLIT, 2, "a,b,c", ".b", "cannot");
        back("R={a:num(0..9),d:num};", ShapeLang.SPLIT, 2, "a,b,c", ".c", "cannot");
        back("R={a:num(0..9),d:num};", ShapeLang.SPLIT, 2, "a,b,c", ".d", ".d");
        back("R={a:num(0..9),b:num(0..1)};", ShapeLang.JOIN, 2, "a,b,d", ".d", "cannot");
        back("R={f:[@R],r:{g:num}};", ShapeLang.MOVE, 0, "f,r", ".r.f[].r.f", ".f[].f");
        back("R={f:[@R],r:{g:num}};", ShapeLang.MOVE, 0, "f,r", ".r.g", ".r.g");
        back("R={r:{f:[@R],g:num}};", ShapeLang.LIFT, 0, "r,f", ".f[].f", ".r.f[].r.f");
        back("R={a:[num]};", ShapeLang.RETYPE, 0, "a:text=''", ".a", ".a");
        back("R={a:[num]};", ShapeLang.RETYPE, 0, "a:[text]=[]", ".a[]", "cannot");
        back("R={a:[num]};", ShapeLang.WRAP, 0, "a,T", ".a!T[]", ".a[]");
        back("R={a:[num]};", ShapeLang.WRAP, 0, "a,T", ".a", ".a");
        back("R={a:T([num])};", ShapeLang.UNWRAP, 0, "a", ".a[]", ".a!T[]");
        back("R={a:num};", ShapeLang.RELAX, 0, "a", ".a", "cannot");
        back("R={a?:num};", ShapeLang.REQUIRE, 0, "a=0", ".a", ".a");
    }

    /** Another { } stands among the parts. */
    private static void others() {
        String[] schemas = {"R=@S|{a:num,z:num};S={a:num,b:num};", "R=@S|{c:num};S={a:num,b:num};", "R=@S|{b:num};S={a:num,b:num};"};
        String[] due = {"cannot", "cannot", ".c"};
        for (int i = 0; i < schemas.length; i++) {
            C.is("P29 " + schemas[i], over(schemas[i], 1, ShapeLang.RENAME, 0, "a,c", ".a", true), due[i]);
            C.is("P29 the other field", over(schemas[i], 1, ShapeLang.RENAME, 0, "a,c", ".b", true), ".b");
        }
        C.is("P29 a { } that is not changed", over(schemas[0], 1, ShapeLang.RENAME, 0, "a,c", ".z", true), ".z");
        C.is("P29 stays with another", over("R=@S|{a:num};S={a:num};", 1, ShapeLang.RELAX, 0, "a", ".a", true), ".a");
        C.is("P29 not among the parts", over("R={a:num,s:@S};S={a:num};", 1, ShapeLang.RENAME, 0, "a,c", ".a", true), ".a");
        C.is("P29 among the parts", over("R={a:num,s:@S};S={a:num};", 1, ShapeLang.RENAME, 0, "a,c", ".s.a", true), ".s.c");
        C.is("P29 the first new name", over("R=@S|{r:num};S={f:num,r:{}};", 1, ShapeLang.MOVE, 0, "f,r", ".f", true), "cannot");
        C.is("P29 a later new name", over("R=@S|{z:num};S={f:num,r:{}};", 1, ShapeLang.MOVE, 0, "f,r", ".f", true), ".r.f");
        C.is("P29 LIFT with another r", over("R=@S|{r:{f:num}};S={r:{f:num}};", 1, ShapeLang.LIFT, 0, "r,f", ".r.f", true), "cannot");
        C.is("P29 LIFT with another f", over("R=@S|{f:num};S={r:{f:num}};", 1, ShapeLang.LIFT, 0, "r,f", ".r.f", true), "cannot");
        C.is("P29 WRAP with another", over("R=@S|{f:num};S={f:num};", 1, ShapeLang.WRAP, 0, "f,T", ".f", true), "cannot");
    }

    private static void calls() {
        ShapeLang x = new ShapeLang();
        Check.begin(x, "R={a:num};");
        Check.change(x, 0, ShapeLang.RENAME, 0, 0, "a,b");
        Check.change(x, 1, ShapeLang.WRAP, 0, 0, "b,T");
        Check.change(x, 0, ShapeLang.RENAME, 0, 0, "a,z");
        Check.begin(x, "R={a:num};");
        Check.feed(x, ".z");
        C.is("P29 over several changes", x.rewrite(3, 2), 4);
        C.is("P29 its text", Check.out(x), ".b!T");
        Check.feed(x, ".b!T");
        C.is("P29 back again", x.rewrite(2, 3), 2);
        C.is("P29 its text again", Check.out(x), ".z");
        Check.feed(x, ".a");
        C.noState("P29 no way", () -> x.rewrite(0, 4));
        C.noState("P29 used up", () -> x.rewrite(0, 0));
        C.is("P29 its fault", x.fault(), 0);
        Check.feed(x, ".b");
        C.noState("P29 not in the first version", () -> x.rewrite(0, 1));
        Check.feed(x, ".a");
        C.noSuch("P29 from", () -> x.rewrite(5, 0));
        C.noSuch("P29 to", () -> x.rewrite(0, -1));
        C.is("P29 the tape stayed", x.rewrite(0, 0), 2);
        C.is("P29 the out", Check.out(x), ".a");
        Check.feed(x, ".a");
        C.noSuch("P28 version", () -> x.shapeOf(5));
        C.is("P28 the tape stayed", x.shapeOf(0), 3);
        C.is("P28 the out", Check.out(x), "num");
        Check.put(x, 0, "{a:4}");
        Check.put(x, 1, "{a:''}");
        Check.feed(x, ".a");
        C.noSuch("P26 version", () -> x.query(5, 0));
        C.noSuch("P26 slot", () -> x.query(0, 8));
        C.is("P26 the tape stayed", x.query(0, 0), 1);
        Check.feed(x, ".b");
        C.noState("P26 no such path", () -> x.query(0, 0));
        Check.feed(x, ".a");
        C.noState("P26 not of the root", () -> x.query(0, 1));
        Check.feed(x, ".a");
        C.noState("P26 empty", () -> x.query(0, 7));
        C.noState("P26 used up", () -> x.query(0, 0));
        C.is("P26 the text first", x.fault(), 0);
        Check.feed(x, "[");
        C.noState("P26 the text of an empty slot", () -> x.query(0, 7));
        C.is("P26 its fault", x.fault(), 1);
        Check.put(x, 0, "5");
        C.is("P27 the results of the latest that did not throw", x.result(0), 1);
        C.is("P27 its text", Check.out(x), "4");
    }
}
