/** The bounds of the section "Queries": 8 steps, paths that cannot be gone, and those that cannot be rewritten. */
public final class PathBoundsTest {
    private static final Check C = new Check();
    private static final String CANNOT = "cannot";

    /** What a call makes of a path: the shape of it, or what it threw: "cannot", or its fault. */
    private static String shape(String schema, String path) {
        ShapeLang x = new ShapeLang();
        Check.begin(x, schema);
        Check.put(x, 0, "'out'");
        x.show(0);
        Check.feed(x, path);
        try {
            C.is("P28 bytes", x.shapeOf(0), x.length());
            C.is("P3 no fault", x.fault(), ShapeLang.NONE);
            return Check.out(x);
        } catch (IllegalStateException e) {
            C.is("P28 the out stays", Check.out(x), "'out'");
            C.is("P28 the tape is used up", Seen.tape(x), 0);
            return x.fault() == ShapeLang.NONE ? CANNOT : "" + x.fault();
        }
    }

    private static void goes(String rule, String schema, String path, String due) {
        C.is("P28 " + rule + ": " + path + " in " + schema, shape(schema, path), due);
    }

    /** The same fault by each call that takes a path. */
    private static void fault(String path, int due) {
        goes("a fault", "R={a:num};", path, "" + due);
        for (int call = 0; call < 2; call++) {
            boolean query = call == 0;
            ShapeLang x = new ShapeLang();
            Check.begin(x, "R={a:num};");
            Check.put(x, 0, "{a:1}");
            Check.feed(x, path);
            C.noState((query ? "P26 " : "P29 ") + path, () -> query ? x.query(0, 0) : x.rewrite(0, 0));
            C.is("P3 fault of " + path, x.fault(), due);
        }
    }

    private static void results(String rule, String schema, String value, String path, String... due) {
        ShapeLang x = new ShapeLang();
        Check.begin(x, schema);
        Check.put(x, 7, value);
        Check.feed(x, path);
        C.is("P26 " + rule + ": " + path + " in " + value, x.query(0, 7), due.length);
        for (int i = 0; i < due.length; i++) {
            C.is("P27 bytes, " + rule, x.result(i), due[i].length());
            C.is("P27 " + rule, Check.out(x), due[i]);
        }
        C.noSuch("P27 behind the last one, " + rule, () -> x.result(due.length));
        C.noSuch("P27 ahead of the first one, " + rule, () -> x.result(-1));
    }

    private static String over(String schema, int definition, int kind, int n, String text, String path, boolean ahead) {
        ShapeLang x = new ShapeLang();
        Check.begin(x, schema);
        Check.change(x, 0, kind, definition, n, text);
        Check.put(x, 0, "'out'");
        x.show(0);
        Check.feed(x, path);
        try {
            C.is("P29 bytes", ahead ? x.rewrite(0, 1) : x.rewrite(1, 0), x.length());
            return Check.out(x);
        } catch (IllegalStateException e) {
            C.is("P29 no fault", x.fault(), ShapeLang.NONE);
            C.is("P29 the out stays", Check.out(x), "'out'");
            C.is("P29 the tape is used up", Seen.tape(x), 0);
            return CANNOT;
        }
    }

    private static void ahead(String rule, String schema, int kind, int n, String text, String path, String due) {
        C.is("P29 " + rule + ": " + schema + " by " + text + " of " + path, over(schema, 0, kind, n, text, path, true), due);
    }

    private static void back(String rule, String schema, int kind, int n, String text, String path, String due) {
        C.is("P29 back, " + rule + ": " + schema + " by " + text + " of " + path, over(schema, 0, kind, n, text, path, false), due);
    }

    public static void main(String[] args) {
        steps();
        going();
        shapes();
        values();
        keptResults();
        longer();
        ways();
        gone();
        stays();
        beside();
        C.end("PathBoundsTest");
    }

    private static void steps() {
        String[] step = {".r", "[]", "<>", "!R"};
        String schema = "R={r:@R}|[@R]|<@R>|R(@R)|num;";
        for (String one : step) {
            goes("1 step", schema, one, "@R");
            goes("8 steps", schema, one.repeat(8), "@R");
            goes("9 steps", schema, one.repeat(9), "" + (one.length() * 9 + 1));
            goes("many steps", schema, one.repeat(200), "" + (one.length() * 200 + 1));
            goes("a fault behind 9 steps", schema, one.repeat(9) + ";", "" + one.length() * 9);
            goes("an early end behind 9 steps", schema, one.repeat(9) + "[", "" + (one.length() * 9 + 1));
        }
        goes("9 steps that cannot be gone", "R=num;", ".a".repeat(9), "19");
        fault("", 0);
        fault(".", 1);
        fault("..a", 1);
        fault(".a.", 3);
        fault(".A", 1);
        fault(".1", 1);
        fault(".abcde", 5);
        fault(".aB", 2);
        fault("a", 0);
        fault("[", 1);
        fault("[a", 1);
        fault("[1]", 1);
        fault("]", 0);
        fault("<", 1);
        fault("<]", 1);
        fault("!", 1);
        fault("!a", 1);
        fault("!Abcde", 5);
        fault("!AB", 2);
        fault(".a ", 2);
        fault(" .a", 0);
        fault(".a,.b", 2);
        fault("\u00ff", 0);
        goes("a name of 4", "R={abcd:num};", ".abcd", "num");
        goes("a Tag of 4", "R=Abcd(num);", "!Abcd", "num");
    }

    private static void going() {
        goes("no field", "R=num;", ".a", CANNOT);
        goes("another field", "R={a:num};", ".b", CANNOT);
        goes("a longer field", "R={a:num};", ".aa", CANNOT);
        goes("a field with ?", "R={a?:num};", ".a", "num");
        goes("no list", "R={a:num}|<num>|A(num)|text;", "[]", CANNOT);
        goes("no map", "R={a:num}|[num]|A(num)|text;", "<>", CANNOT);
        goes("no Tag", "R={a:num}|[num]|<num>|text;", "!A", CANNOT);
        goes("another Tag", "R=A(num);", "!B", CANNOT);
        goes("a longer Tag", "R=A(num);", "!Aa", CANNOT);
        goes("the second step", "R={a:num};", ".a.a", CANNOT);
        goes("the eighth step", "R=[[[[[[[num]]]]]]];", "[][][][][][][][]", CANNOT);
        goes("the eighth step, too", "R=[[[[[[[[num]]]]]]]];", "[][][][][][][][]", "num");
        goes("some shape of several", "R=num|{b:num}|{a:text};", ".a", "text");
        goes("some shape further on", "R={a:num}|{a:[text]};", ".a[]", "text");
        goes("over @", "R=@S;S=@T|num;T={a:@S};", ".a.a", "@S");
        goes("a shape without values", "R={a:none};", ".a", "none");
        goes("through a shape without values", "R={a:{b:@R}};", ".a.b.a", "{b:@R}");
        goes("a list without items", "R=[num;0..0];", "[]", "num");
        goes("not from what is not the root", "R=num;S={a:num};", ".a", CANNOT);
    }

    /** The parts as they stand, in their order, those with the same text once. */
    private static void shapes() {
        goes("as they stand", "R={a:@S|num(-9999..9999)|[text;0..8]};S=num;", ".a", "@S|num|[text]");
        goes("the same text once", "R={a:num|text|num};", ".a", "num|text");
        goes("the third text once", "R={a:num|text|none}|{a:none|text|num};", ".a", "num|text|none");
        goes("the sixth text once", "R={a:num|text|none|{}|[num]|<num>}|{a:<num>|[num]|A(num)};", ".a", "num|text|none|{}|[num]|<num>|A(num)");
        goes("a text that another one begins with", "R={a:num|num(0..1)|text|text(a)|text(ab)};", ".a", "num|num(0..1)|text|text(a)|text(ab)");
        goes("the same text of two { } once", "R={a:num|text}|{a:text|none};", ".a", "num|text|none");
        goes("the same text of two lists once", "R=[{b:num,a?:text}|num]|[{a?:text,b:num}];", "[]", "{a?:text,b:num}|num");
        goes("other texts of the same values", "R={a:num}|{a:num(-9999..9998)|@S};S=num;", ".a", "num|num(-9999..9998)|@S");
        goes("in the order of the parts", "R=@S|{a:none};S={a:text};", ".a", "text|none");
        goes("from two by two", "R=[@S]|[num|@S];S={a:num}|num;", "[]", "@S|num");
        goes("what an @ leads to is gone through", "R=[@S];S={a:num}|{a:text};", "[].a", "num|text");
        goes("more than 6 parts", "R={a:num|text|none|[num]|{}|<num>}|{a:num(0..1)|text(a)|A(num)|B(num)|[text]|<text>};", ".a",
            "num|text|none|[num]|{}|<num>|num(0..1)|text(a)|A(num)|B(num)|[text]|<text>");
    }

    private static void values() {
        results("none", "R={a?:num};", "{}", ".a");
        results("one", "R={a?:num};", "{a:5}", ".a", "5");
        results("one behind the other", "R=[[num]];", "[[1,2],[],[3]]", "[][]", "1", "2", "3");
        results("a field that some have", "R=[{a?:num}];", "[{a:1},{},{a:1}]", "[].a", "1", "1");
        results("values of a map", "R=<num>;", "<'':2,'a':1>", "<>", "2", "1");
        results("not items of a map", "R=[num]|<num>;", "<'':2,'a':1>", "[]");
        results("not values of a list", "R=[num]|<num>;", "[1]", "<>");
        results("not values of a record", "R={a:num}|<num>;", "{a:1}", "<>");
        results("not what a map has by a key", "R={a:num}|<num>;", "<'a':5>", ".a");
        results("not what a record has by a name", "R={a:num}|A(num);", "{a:5}", "!A");
        results("not what a tagged value has", "R={a:num}|A(num);", "A(5)", ".a");
        results("not what a list has", "R={a:num}|[num];", "[5]", ".a");
        results("not what a list has by a Tag", "R=A(num)|[num];", "[5]", "!A");
        results("not what a tagged value has as an item", "R=A(num)|[num];", "A(5)", "[]");
        results("nothing of a number", "R={a:num}|num;", "5", ".a");
        results("nothing of a text", "R=[num]|text;", "'a'", "[]");
        results("this Tag", "R=A(num)|B(num);", "A(3)", "!A", "3");
        results("another Tag", "R=A(num)|B(num);", "A(3)", "!B");
        results("a field of a value of another { }", "R=[{a:num}|{b:num}];", "[{b:1},{a:2}]", "[].b", "1");
        results("8 steps", "R=[@R]|num;", "[[[[[[[[7,8]]]]]]]]", "[][][][][][][][]", "7", "8");
        String seven = "[1,2,3,4,5,6,7]";
        String[] all = new String[51];
        for (int i = 0; i < 51; i++) {
            all[i] = "" + (i % 7 + 1);
        }
        results("51 results", "R=[[num]];", "[" + (seven + ",").repeat(7) + "[1,2]]", "[][]", all);
        results("a value of 60 nodes", "R=A([[num]]);", "A([" + (seven + ",").repeat(7) + "[1]])", "!A", "[" + (seven + ",").repeat(7) + "[1]]");
    }

    /** Results are kept until the next query that does not throw. */
    private static void keptResults() {
        ShapeLang x = new ShapeLang();
        C.noSuch("P27 no query yet", () -> x.result(0));
        Check.begin(x, "R={a:num,b:[num]};");
        Check.begin(x, "R=num;");
        Check.put(x, 0, "{a:1,b:[2,3]}");
        Check.put(x, 1, "5");
        Check.feed(x, ".b[]");
        C.is("P26 two", x.query(0, 0), 2);
        Check.put(x, 0, "7");
        x.clear(0);
        Check.feed(x, ".a");
        C.noState("P26 of an empty slot", () -> x.query(0, 0));
        Check.feed(x, ".a");
        C.noState("P26 not of the root", () -> x.query(0, 1));
        Check.feed(x, ".a");
        C.noState("P26 a path that cannot be gone", () -> x.query(1, 1));
        Check.feed(x, ".");
        C.noState("P26 a fault", () -> x.query(1, 1));
        Check.feed(x, ".a");
        C.noSuch("P26 no such slot", () -> x.query(0, 8));
        x.shapeOf(0);
        Check.feed(x, ".a");
        x.rewrite(0, 0);
        x.witness(0, 0, 1, 0);
        x.infer(2, 1);
        x.write(1, 1);
        C.is("P27 the second one is kept", x.result(1), 1);
        C.is("P27 its text", Check.out(x), "3");
        C.is("P27 the first one is kept", x.result(0), 1);
        C.is("P27 its text", Check.out(x), "2");
        C.noSuch("P27 no third one", () -> x.result(2));
        Check.put(x, 0, "{a:1,b:[]}");
        Check.feed(x, ".b[]");
        C.is("P26 none", x.query(0, 0), 0);
        C.noSuch("P27 they are not kept longer", () -> x.result(0));
    }

    /** What comes of a path has 8 steps, or more. */
    private static void longer() {
        ahead("8 steps by MOVE", "R={f:@R|num,r:{}};", ShapeLang.MOVE, 0, "f,r", ".f.f.f.f", ".r.f.r.f.r.f.r.f");
        ahead("10 steps by MOVE", "R={f:@R|num,r:{}};", ShapeLang.MOVE, 0, "f,r", ".f.f.f.f.f", CANNOT);
        ahead("7 steps by MOVE with another one", "R={f:@R|[num],r:{}};", ShapeLang.MOVE, 0, "f,r", ".f.f.f[]", ".r.f.r.f.r.f[]");
        ahead("9 steps by MOVE with another one", "R={f:@R|[num],r:{}};", ShapeLang.MOVE, 0, "f,r", ".f.f.f.f[]", CANNOT);
        ahead("8 steps by WRAP", "R={a:@R|num};", ShapeLang.WRAP, 0, "a,T", ".a.a.a.a", ".a!T.a!T.a!T.a!T");
        ahead("9 steps by WRAP with another one", "R={a:@R|[@R]|num};", ShapeLang.WRAP, 0, "a,T", ".a.a.a.a[]", CANNOT);
        ahead("8 steps by WRAP and one that stays", "R={a:@R|[[@R]]|num};", ShapeLang.WRAP, 0, "a,T", ".a.a.a[][]", ".a!T.a!T.a!T[][]");
        ahead("9 steps by WRAP and one that stays", "R={a:@R|[[[@R]]]|num};", ShapeLang.WRAP, 0, "a,T", ".a.a.a[][][]", CANNOT);
        back("8 steps by LIFT back", "R={r:{f:@R|num}};", ShapeLang.LIFT, 0, "r,f", ".f.f.f.f", ".r.f.r.f.r.f.r.f");
        back("10 steps by LIFT back", "R={r:{f:@R|num}};", ShapeLang.LIFT, 0, "r,f", ".f.f.f.f.f", CANNOT);
        back("8 steps by UNWRAP back", "R={a:T(@R|num)};", ShapeLang.UNWRAP, 0, "a", ".a.a.a.a", ".a!T.a!T.a!T.a!T");
        back("10 steps by UNWRAP back", "R={a:T(@R|num)};", ShapeLang.UNWRAP, 0, "a", ".a.a.a.a.a", CANNOT);
        ahead("8 steps become 4", "R={r:{f:@R|num}};", ShapeLang.LIFT, 0, "r,f", ".r.f.r.f.r.f.r.f", ".f.f.f.f");
        // too long on the way, though not behind it
        ShapeLang x = new ShapeLang();
        Check.begin(x, "R={f:@R|num,r:{}};");
        Check.change(x, 0, ShapeLang.MOVE, 0, 0, "f,r");
        Check.change(x, 1, ShapeLang.LIFT, 0, 0, "r,f");
        Check.feed(x, ".f.f.f.f");
        C.is("P29 8 steps on the way", x.rewrite(0, 2), 8);
        C.is("P29 its text", Check.out(x), ".f.f.f.f");
        Check.feed(x, ".f.f.f.f.f");
        C.noState("P29 10 steps on the way", () -> x.rewrite(0, 2));
        Check.feed(x, ".f.f.f.f.f");
        C.noState("P29 10 steps on the way back", () -> x.rewrite(2, 0));
        Check.feed(x, ".f.f.f.f.f");
        C.is("P29 without a way it stays as it is", x.rewrite(2, 2), 10);
    }

    private static void ways() {
        ShapeLang x = new ShapeLang();
        Check.begin(x, "R={a:num,b:num};");
        Check.change(x, 0, ShapeLang.RENAME, 0, 0, "a,c");
        Check.change(x, 1, ShapeLang.WRAP, 0, 0, "c,T");
        Check.change(x, 1, ShapeLang.RENAME, 0, 0, "c,d");
        Check.begin(x, "R={a:num};");
        Check.feed(x, ".c!T");
        C.is("P29 over the nearest one", x.rewrite(2, 3), 2);
        C.is("P29 its text", Check.out(x), ".d");
        Check.feed(x, ".a");
        C.is("P29 one after the other", x.rewrite(0, 2), 4);
        C.is("P29 its text", Check.out(x), ".c!T");
        Check.feed(x, ".c");
        C.noState("P29 not of the first version", () -> x.rewrite(0, 1));
        Check.feed(x, ".a");
        C.noState("P29 no way", () -> x.rewrite(0, 4));
        Check.feed(x, ".a");
        C.is("P29 itself", x.rewrite(4, 4), 2);
        C.is("P29 as it is", Check.out(x), ".a");
    }

    /** With fields that go, or came, the path cannot be rewritten; with others it can. */
    private static void gone() {
        ahead("DROP", "R={a:num,b:num};", ShapeLang.DROP, 0, "a=0", ".a", CANNOT);
        ahead("DROP of another one", "R={a:num,b:num};", ShapeLang.DROP, 0, "a=0", ".b", ".b");
        back("DROP", "R={a:num,b:num};", ShapeLang.DROP, 0, "a=0", ".b", ".b");
        back("ADD", "R={b:num};", ShapeLang.ADD, 0, "a:num=0,c:num=0", ".a", CANNOT);
        back("ADD of the second one", "R={b:num};", ShapeLang.ADD, 0, "a:num=0,c:num=0", ".c", CANNOT);
        back("ADD of another one", "R={b:num};", ShapeLang.ADD, 0, "a:num=0,c:num=0", ".b", ".b");
        ahead("ADD", "R={b:num};", ShapeLang.ADD, 0, "a:num=0,c:num=0", ".b", ".b");
        ahead("SPLIT", "R={f:num(0..9),z:num};", ShapeLang.SPLIT, 2, "f,g,h", ".f", CANNOT);
        ahead("SPLIT into its own name", "R={f:num(0..9),z:num};", ShapeLang.SPLIT, 2, "f,f,h", ".f", CANNOT);
        ahead("SPLIT of another one", "R={f:num(0..9),z:num};", ShapeLang.SPLIT, 2, "f,g,h", ".z", ".z");
        back("SPLIT, the first one", "R={f:num(0..9),z:num};", ShapeLang.SPLIT, 2, "f,g,h", ".g", CANNOT);
        back("SPLIT, the second one", "R={f:num(0..9),z:num};", ShapeLang.SPLIT, 2, "f,g,h", ".h", CANNOT);
        back("SPLIT, into its own name", "R={f:num(0..9),z:num};", ShapeLang.SPLIT, 2, "f,g,f", ".f", CANNOT);
        back("SPLIT of another one", "R={f:num(0..9),z:num};", ShapeLang.SPLIT, 2, "f,g,h", ".z", ".z");
        ahead("JOIN, the first one", "R={g:num(0..9),h:num(0..1),z:num};", ShapeLang.JOIN, 2, "g,h,f", ".g", CANNOT);
        ahead("JOIN, the second one", "R={g:num(0..9),h:num(0..1),z:num};", ShapeLang.JOIN, 2, "g,h,f", ".h", CANNOT);
        ahead("JOIN into its own name", "R={g:num(0..9),h:num(0..1),z:num};", ShapeLang.JOIN, 2, "g,h,h", ".h", CANNOT);
        ahead("JOIN of others", "R={g:num(0..9),h:num(0..1),z:num};", ShapeLang.JOIN, 2, "g,h,f", ".z", ".z");
        back("JOIN", "R={g:num(0..9),h:num(0..1),z:num};", ShapeLang.JOIN, 2, "g,h,f", ".f", CANNOT);
        back("JOIN of others", "R={g:num(0..9),h:num(0..1),z:num};", ShapeLang.JOIN, 2, "g,h,f", ".z", ".z");
        ahead("REQUIRE", "R={a?:num,b?:num};", ShapeLang.REQUIRE, 0, "a=0", ".a", CANNOT);
        ahead("REQUIRE of another one", "R={a?:num,b?:num};", ShapeLang.REQUIRE, 0, "a=0", ".b", ".b");
        back("REQUIRE", "R={a?:num};", ShapeLang.REQUIRE, 0, "a=0", ".a", ".a");
        ahead("RELAX", "R={a:num,b:num};", ShapeLang.RELAX, 0, "a", ".a", ".a");
        back("RELAX", "R={a:num,b:num};", ShapeLang.RELAX, 0, "a", ".a", CANNOT);
        back("RELAX of another one", "R={a:num,b:num};", ShapeLang.RELAX, 0, "a", ".b", ".b");
        ahead("RETYPE, the last step", "R={a:[num]};", ShapeLang.RETYPE, 0, "a:[text]=[]", ".a", ".a");
        ahead("RETYPE, not the last step", "R={a:[num]};", ShapeLang.RETYPE, 0, "a:[text]=[]", ".a[]", CANNOT);
        back("RETYPE, the last step", "R={a:[num]};", ShapeLang.RETYPE, 0, "a:[text]=[]", ".a", ".a");
        back("RETYPE, not the last step", "R={a:[num]};", ShapeLang.RETYPE, 0, "a:[text]=[]", ".a[]", CANNOT);
        ahead("RETYPE of another one", "R={a:[num],b:[num]};", ShapeLang.RETYPE, 0, "a:[text]=[]", ".b[]", ".b[]");
        ahead("RETYPE, first not the last step", "R={a:@R|num};", ShapeLang.RETYPE, 0, "a:@R|text=''", ".a.a", CANNOT);
    }

    private static void stays() {
        ahead("MOVE, r alone", "R={f:num,r:{g:num}};", ShapeLang.MOVE, 0, "f,r", ".r", ".r");
        ahead("MOVE, r and another one", "R={f:num,r:{g:num}};", ShapeLang.MOVE, 0, "f,r", ".r.g", ".r.g");
        back("MOVE, r and f", "R={f:num,r:{g:num}};", ShapeLang.MOVE, 0, "f,r", ".r.f", ".f");
        back("MOVE, r alone", "R={f:num,r:{g:num}};", ShapeLang.MOVE, 0, "f,r", ".r", ".r");
        back("MOVE, r and another one", "R={f:num,r:{g:num}};", ShapeLang.MOVE, 0, "f,r", ".r.g", ".r.g");
        ahead("LIFT, r alone", "R={r:{f:num,g:num}};", ShapeLang.LIFT, 0, "r,f", ".r", ".r");
        ahead("LIFT, r and another one", "R={r:{f:num,g:num}};", ShapeLang.LIFT, 0, "r,f", ".r.g", ".r.g");
        ahead("LIFT, r and f", "R={r:{f:num,g:num}};", ShapeLang.LIFT, 0, "r,f", ".r.f", ".f");
        back("LIFT, r alone", "R={r:{f:num,g:num}};", ShapeLang.LIFT, 0, "r,f", ".r", ".r");
        back("LIFT, f", "R={r:{f:num,g:num}};", ShapeLang.LIFT, 0, "r,f", ".f", ".r.f");
        ahead("WRAP", "R={a:num,b:num};", ShapeLang.WRAP, 0, "a,T", ".a", ".a!T");
        ahead("WRAP of another one", "R={a:num,b:num};", ShapeLang.WRAP, 0, "a,T", ".b", ".b");
        back("WRAP, not followed by its Tag", "R={a:num};", ShapeLang.WRAP, 0, "a,T", ".a", ".a");
        back("WRAP, followed by its Tag", "R={a:num};", ShapeLang.WRAP, 0, "a,T", ".a!T", ".a");
        back("WRAP, followed by two Tags", "R={a:T(num)};", ShapeLang.WRAP, 0, "a,T", ".a!T!T", ".a!T");
        ahead("UNWRAP, not followed by its Tag", "R={a:T(num)};", ShapeLang.UNWRAP, 0, "a", ".a", ".a");
        ahead("UNWRAP, followed by its Tag", "R={a:T(num)};", ShapeLang.UNWRAP, 0, "a", ".a!T", ".a");
        back("UNWRAP", "R={a:T(num)};", ShapeLang.UNWRAP, 0, "a", ".a", ".a!T");
        ahead("RENAME", "R={a:num,b:num};", ShapeLang.RENAME, 0, "a,c", ".a", ".c");
        ahead("RENAME of another one", "R={a:num,b:num};", ShapeLang.RENAME, 0, "a,c", ".b", ".b");
        back("RENAME", "R={a:num,b:num};", ShapeLang.RENAME, 0, "a,c", ".c", ".a");
        ahead("RENAME to itself", "R={a:@R|num};", ShapeLang.RENAME, 0, "a,a", ".a.a", ".a.a");
        C.is("P29 another { } than the changed one", over("R={a:num,s:@S};S={a:num};", 1, ShapeLang.RENAME, 0, "a,b", ".a", true), ".a");
        C.is("P29 the changed one", over("R={a:num,s:@S};S={a:num};", 1, ShapeLang.RENAME, 0, "a,b", ".s.a", true), ".s.b");
        C.is("P29 other steps", over("R=[<A(@S)>];S={a:num};", 1, ShapeLang.RENAME, 0, "a,b", "[]<>!A.a", true), "[]<>!A.b");
    }

    /** Another { } among the parts has a field of the name that a step had, or of the first name that it is to have. */
    private static void beside() {
        String[][] rows = {
            {"R=@S|{z:num};S={a:num};", ".b"}, {"R=@S|{a:num};S={a:num};", CANNOT}, {"R=@S|{b:num};S={a:num};", CANNOT},
            {"R={a:num}|@S;S={a:num};", CANNOT}, {"R={b?:num}|@S;S={a:num};", CANNOT}, {"R=@S|[{a:num,b:num}];S={a:num};", ".b"}, {"R=@S|A({a:num});S={a:num};", ".b"}};
        for (String[] row : rows) {
            C.is("P29 RENAME beside " + row[0], over(row[0], 1, ShapeLang.RENAME, 0, "a,b", ".a", true), row[1]);
        }
        C.is("P29 what stays, beside its like", over("R=@S|{a:num};S={a:num};", 1, ShapeLang.RELAX, 0, "a", ".a", true), ".a");
        C.is("P29 what stays by RETYPE, beside its like", over("R=@S|{a:num};S={a:num};", 1, ShapeLang.RETYPE, 0, "a:text=''", ".a", true), ".a");
        C.is("P29 another field, beside its like", over("R=@S|{b:num};S={a:num,b:num};", 1, ShapeLang.RENAME, 0, "a,c", ".b", true), ".b");
        C.is("P29 what goes, beside its like", over("R=@S|{a:num};S={a:num};", 1, ShapeLang.DROP, 0, "a=0", ".a", true), CANNOT);
        C.is("P29 MOVE beside r", over("R=@S|{r:num};S={f:num,r:{}};", 1, ShapeLang.MOVE, 0, "f,r", ".f", true), CANNOT);
        C.is("P29 MOVE beside f", over("R=@S|{f:num};S={f:num,r:{}};", 1, ShapeLang.MOVE, 0, "f,r", ".f", true), CANNOT);
        C.is("P29 MOVE beside another one", over("R=@S|{z:num};S={f:num,r:{}};", 1, ShapeLang.MOVE, 0, "f,r", ".f", true), ".r.f");
        C.is("P29 MOVE, r alone beside r", over("R=@S|{r:num};S={f:num,r:{}};", 1, ShapeLang.MOVE, 0, "f,r", ".r", true), ".r");
        C.is("P29 LIFT beside r", over("R=@S|{r:{f:num}};S={r:{f:num}};", 1, ShapeLang.LIFT, 0, "r,f", ".r.f", true), CANNOT);
        C.is("P29 LIFT beside f", over("R=@S|{f:num};S={r:{f:num}};", 1, ShapeLang.LIFT, 0, "r,f", ".r.f", true), CANNOT);
        C.is("P29 LIFT, r alone beside r", over("R=@S|{r:{f:num}};S={r:{f:num}};", 1, ShapeLang.LIFT, 0, "r,f", ".r", true), ".r");
        C.is("P29 WRAP beside its like", over("R=@S|{a:num};S={a:num};", 1, ShapeLang.WRAP, 0, "a,T", ".a", true), CANNOT);
        C.is("P29 UNWRAP beside its like", over("R=@S|{a:T(num)};S={a:T(num)};", 1, ShapeLang.UNWRAP, 0, "a", ".a!T", true), CANNOT);
        C.is("P29 UNWRAP alone beside its like", over("R=@S|{a:T(num)};S={a:T(num)};", 1, ShapeLang.UNWRAP, 0, "a", ".a", true), ".a");
        C.is("P29 back beside its like", over("R=@S|{b:num};S={a:num};", 1, ShapeLang.RENAME, 0, "a,b", ".b", false), CANNOT);
        C.is("P29 back beside the old one", over("R=@S|{a:num};S={a:num};", 1, ShapeLang.RENAME, 0, "a,b", ".b", false), CANNOT);
        C.is("P29 back beside another one", over("R=@S|{z:num};S={a:num};", 1, ShapeLang.RENAME, 0, "a,b", ".b", false), ".a");
        // beside it at one step alone
        C.is("P29 at another step", over("R={q:@S|{z:num},p:{a:num}|@S};S={a:num};", 1, ShapeLang.RENAME, 0, "a,b", ".q.a", true), ".q.b");
        C.is("P29 at this step", over("R={q:@S|{z:num},p:{a:num}|@S};S={a:num};", 1, ShapeLang.RENAME, 0, "a,b", ".p.a", true), CANNOT);
    }
}
