/** The section "Versions and changes": each reason for which a change is refused, with what is just not refused, and faults. */
public final class ChangeBoundsTest {
    private static final Check C = new Check();
    private static final String NO = "refused";

    /** The schema that comes of a change, "refused", or its fault; a version that was begun ahead must stay as it was. */
    private static String changed(String schema, int kind, int definition, int n, String text) {
        ShapeLang x = new ShapeLang();
        Check.begin(x, schema);
        Check.feed(x, text);
        try {
            int v = x.change(0, kind, definition, n);
            C.is("P11 number", v, 1);
            C.is("P12 versions", x.versions(), 2);
            C.is("P13 parent", x.parent(1), 0);
            C.is("P3 no fault", x.fault(), ShapeLang.NONE);
            return Check.schema(x, 1);
        } catch (IllegalStateException e) {
            C.is("P12 nothing began", x.versions(), 1);
            C.is("the tape is used up", Seen.tape(x), 0);
            return x.fault() == ShapeLang.NONE ? NO : "" + x.fault();
        }
    }

    private static void is(String rule, String schema, int kind, int n, String text, String due) {
        C.is("P11 " + rule + ": " + schema + " by " + text, changed(schema, kind, 0, n, text), due);
    }

    /** Just what is due, or refused. */
    private static void add(String rule, String schema, String text, String due) {
        is(rule, schema, ShapeLang.ADD, 0, text, due);
    }

    private static void drop(String rule, String schema, String text, String due) {
        is(rule, schema, ShapeLang.DROP, 0, text, due);
    }

    private static void rename(String rule, String schema, String text, String due) {
        is(rule, schema, ShapeLang.RENAME, 0, text, due);
    }

    private static void split(String rule, String schema, int n, String text, String due) {
        is(rule, schema, ShapeLang.SPLIT, n, text, due);
    }

    private static void join(String rule, String schema, int n, String text, String due) {
        is(rule, schema, ShapeLang.JOIN, n, text, due);
    }

    private static void move(String rule, String schema, String text, String due) {
        is(rule, schema, ShapeLang.MOVE, 0, text, due);
    }

    private static void lift(String rule, String schema, String text, String due) {
        is(rule, schema, ShapeLang.LIFT, 0, text, due);
    }

    private static void retype(String rule, String schema, String text, String due) {
        is(rule, schema, ShapeLang.RETYPE, 0, text, due);
    }

    private static void wrap(String rule, String schema, String text, String due) {
        is(rule, schema, ShapeLang.WRAP, 0, text, due);
    }

    private static void unwrap(String rule, String schema, String text, String due) {
        is(rule, schema, ShapeLang.UNWRAP, 0, text, due);
    }

    private static void relax(String rule, String schema, String text, String due) {
        is(rule, schema, ShapeLang.RELAX, 0, text, due);
    }

    private static void require(String rule, String schema, String text, String due) {
        is(rule, schema, ShapeLang.REQUIRE, 0, text, due);
    }

    public static void main(String[] args) {
        ofOneRecordAlone();
        namedFields();
        adding();
        splitting();
        joining();
        movingAndLifting();
        wrapping();
        relaxing();
        schemasNotAsTold();
        shapesWithoutValues();
        sixtyNodes();
        defaults();
        sums();
        rings();
        faults();
        twelve();
        C.end("ChangeBoundsTest");
    }

    /** A change is made of a definition whose shape is one { } alone. */
    private static void ofOneRecordAlone() {
        String[] texts = {"b:num=0", "a=0", "a,b", "a,b,c", "a,b,c", "a,r", "r,a", "a:text=''", "a,T", "a", "a", "a=0"};
        String[] shapes = {"num", "{a:num}|{b:num}", "@S", "{a:num}|num", "none|{a:num}", "[{a:num}]", "T({a:num})", "<num>", "none"};
        for (int kind = 0; kind < texts.length; kind++) {
            for (String shape : shapes) {
                int n = kind == ShapeLang.SPLIT || kind == ShapeLang.JOIN ? 2 : 0;
                is("not one { } alone", "R=" + shape + ";S={a:num};", kind, n, texts[kind], NO);
            }
        }
        C.is("P11 another definition", changed("R=@S;S={a:num};", ShapeLang.RENAME, 1, 0, "a,b"), "R=@S;S={b:num};");
        C.is("P11 the last definition", changed("R=num;S=num;T=num;U={a:num};", ShapeLang.RENAME, 3, 0, "a,b"), "R=num;S=num;T=num;U={b:num};");
        C.is("P11 the others stay", changed("R={a:@S};S={a:num|@R};", ShapeLang.RENAME, 1, 0, "a,b"), "R={a:@S};S={b:num|@R};");
    }

    /** Fields that are named and not there, and fields that come and are there. */
    private static void namedFields() {
        drop("not there", "R={a:num};", "b=0", NO);
        drop("there", "R={a:num};", "a=0", "R={};");
        rename("not there", "R={a:num};", "b,c", NO);
        rename("there already", "R={a:num,b:num};", "a,b", NO);
        rename("to itself", "R={a:num,b:num};", "a,a", "R={a:num,b:num};");
        rename("to itself, not there", "R={a:num,b:num};", "c,c", NO);
        rename("with ?", "R={a?:num,b:num};", "a,bb", "R={b:num,bb?:num};");
        split("not there", "R={a:num(0..9)};", 2, "b,c,d", NO);
        join("the first one not there", "R={a:num(0..1)};", 2, "b,a,c", NO);
        join("the second one not there", "R={a:num(0..1)};", 2, "a,b,c", NO);
        move("not there", "R={r:{}};", "f,r", NO);
        move("nor what it goes into", "R={f:num};", "f,r", NO);
        lift("not there", "R={f:num};", "r,f", NO);
        lift("not in it", "R={r:{}};", "r,f", NO);
        retype("not there", "R={a:num};", "b:num=0", NO);
        wrap("not there", "R={a:num};", "b,T", NO);
        unwrap("not there", "R={a:T(num)};", "b", NO);
        relax("not there", "R={a:num};", "b", NO);
        require("not there", "R={a?:num};", "b=0", NO);
        drop("none is there", "R={};", "a=0", NO);
    }

    private static void adding() {
        add("one", "R={};", "a:num=0", "R={a:num};");
        add("six", "R={};", "f:num=0,e?:num=0,d:num=0,c:num=0,b:num=0,a:num=0", "R={a:num,b:num,c:num,d:num,e?:num,f:num};");
        add("seven", "R={};", "g:num=0,f:num=0,e:num=0,d:num=0,c:num=0,b:num=0,a:num=0", NO);
        add("the sixth", "R={a:num,b:num,c:num,d:num,e:num};", "f:num=0", "R={a:num,b:num,c:num,d:num,e:num,f:num};");
        add("the seventh", "R={a:num,b:num,c:num,d:num,e:num};", "f:num=0,g:num=0", NO);
        add("the seventh alone", "R={a:num,b:num,c:num,d:num,e:num,f:num};", "g:num=0", NO);
        add("there already", "R={a:num};", "a:num=0", NO);
        add("there already beside another one", "R={a:num};", "b:num=0,a:num=0", NO);
        add("twice", "R={a:num};", "b:num=0,b:num=0", NO);
        add("twice, others between", "R={};", "b:num=0,c:num=0,b?:num=0", NO);
    }

    private static void splitting() {
        split("by 2", "R={f:num(0..1)};", 2, "f,g,h", "R={g:num(0..0),h:num(0..1)};");
        split("by 100", "R={f:num(0..9999)};", 100, "f,g,h", "R={g:num(0..99),h:num(0..99)};");
        split("from just below a whole one", "R={f:num(9..20)};", 10, "f,g,h", "R={g:num(0..2),h:num(0..9)};");
        split("from a whole one", "R={f:num(10..19)};", 10, "f,g,h", "R={g:num(1..1),h:num(0..9)};");
        split("INTs from 0 on", "R={f:num(0..0)};", 3, "f,g,h", "R={g:num(0..0),h:num(0..2)};");
        split("INTs from -1 on", "R={f:num(-1..9)};", 3, "f,g,h", NO);
        split("all numbers", "R={f:num};", 3, "f,g,h", NO);
        split("with ?", "R={f?:num(0..9)};", 3, "f,g,h", NO);
        split("two parts", "R={f:num(0..9)|num(10..19)};", 3, "f,g,h", NO);
        split("an @ that leads to a num", "R={f:@S};S=num(0..9);", 3, "f,g,h", NO);
        split("a text", "R={f:text};", 3, "f,g,h", NO);
        split("the first one is called like the old one", "R={f:num(0..9)};", 3, "f,f,h", "R={f:num(0..3),h:num(0..2)};");
        split("the second one is called like the old one", "R={f:num(0..9)};", 3, "f,g,f", "R={f:num(0..2),g:num(0..3)};");
        split("both are called alike", "R={f:num(0..9)};", 3, "f,g,g", NO);
        split("both are called like the old one", "R={f:num(0..9)};", 3, "f,f,f", NO);
        split("the first one is there", "R={f:num(0..9),g:num};", 3, "f,g,h", NO);
        split("the second one is there", "R={f:num(0..9),h:num};", 3, "f,g,h", NO);
        split("to six fields", "R={a:num,b:num,c:num,d:num,f:num(0..9)};", 3, "f,g,h", "R={a:num,b:num,c:num,d:num,g:num(0..3),h:num(0..2)};");
        split("to seven fields", "R={a:num,b:num,c:num,d:num,e:num,f:num(0..9)};", 3, "f,g,h", NO);
    }

    private static void joining() {
        join("by 2", "R={g:num(0..9),h:num(0..1)};", 2, "g,h,f", "R={f:num(0..19)};");
        join("by 100 to 9999", "R={g:num(0..99),h:num(0..99)};", 100, "g,h,f", "R={f:num(0..9999)};");
        join("to 10000", "R={g:num(0..100),h:num(0..0)};", 100, "g,h,f", NO);
        join("to 9999 by 2", "R={g:num(0..4999),h:num(0..1)};", 2, "g,h,f", "R={f:num(0..9999)};");
        join("to 10000 by 2", "R={g:num(0..5000),h:num(0..0)};", 2, "g,h,f", NO);
        join("to far above", "R={g:num(0..9999),h:num(0..99)};", 100, "g,h,f", NO);
        join("j is n - 1", "R={g:num(0..9),h:num(0..9)};", 10, "g,h,f", "R={f:num(0..99)};");
        join("j is n", "R={g:num(0..9),h:num(0..10)};", 10, "g,h,f", NO);
        join("j alone is n", "R={g:num(0..9),h:num(10..10)};", 10, "g,h,f", NO);
        join("from l * n + k", "R={g:num(3..4),h:num(5..6)};", 10, "g,h,f", "R={f:num(35..46)};");
        join("m may be above n", "R={g:num(11..12),h:num(0..1)};", 2, "g,h,f", "R={f:num(22..25)};");
        join("a field with itself", "R={g:num(0..1)};", 2, "g,g,f", NO);
        join("the first one with ?", "R={g?:num(0..1),h:num(0..1)};", 2, "g,h,f", NO);
        join("the second one with ?", "R={g:num(0..1),h?:num(0..1)};", 2, "g,h,f", NO);
        join("the first one from -1 on", "R={g:num(-1..1),h:num(0..1)};", 2, "g,h,f", NO);
        join("the second one from -1 on", "R={g:num(0..1),h:num(-1..1)};", 2, "g,h,f", NO);
        join("the first one no num alone", "R={g:num(0..1)|text,h:num(0..1)};", 2, "g,h,f", NO);
        join("the second one no num alone", "R={g:num(0..1),h:num(0..1)|num(0..1)};", 2, "g,h,f", NO);
        join("the first one an @", "R={g:@S,h:num(0..1)};S=num(0..1);", 2, "g,h,f", NO);
        join("the second one an @", "R={g:num(0..1),h:@S};S=num(0..1);", 2, "g,h,f", NO);
        join("called like the first one", "R={g:num(0..1),h:num(0..1)};", 2, "g,h,g", "R={g:num(0..3)};");
        join("called like the second one", "R={g:num(0..1),h:num(0..1)};", 2, "g,h,h", "R={h:num(0..3)};");
        join("called like another one", "R={f:num,g:num(0..1),h:num(0..1)};", 2, "g,h,f", NO);
        join("the other way", "R={g:num(0..1),h:num(0..2)};", 3, "h,g,f", "R={f:num(0..7)};");
    }

    private static void movingAndLifting() {
        move("with its shape", "R={f:num|text,r:{}};", "f,r", "R={r:{f:num|text}};");
        move("with its ?", "R={f?:num,r:{z?:num}};", "f,r", "R={r:{f?:num,z?:num}};");
        move("others stay", "R={a?:text,f:num,m:{f:num},r:{z?:num},z:num(0..1)|none};", "f,r", "R={a?:text,m:{f:num},r:{f:num,z?:num},z:num(0..1)|none};");
        lift("others stay", "R={a?:text,m:{f:num},r:{f:num,z?:num},z:num(0..1)|none};", "r,f", "R={a?:text,f:num,m:{f:num},r:{z?:num},z:num(0..1)|none};");
        move("into a field with ?", "R={f:num,r?:{}};", "f,r", NO);
        move("into two parts", "R={f:num,r:{}|num};", "f,r", NO);
        move("into an @", "R={f:num,r:@S};S={};", "f,r", NO);
        move("into no { }", "R={f:num,r:num};", "f,r", NO);
        move("into one that has it", "R={f:num,r:{f?:num}};", "f,r", NO);
        move("into itself", "R={f:{}};", "f,f", NO);
        move("to six fields", "R={f:num,r:{a:num,b:num,c:num,d:num,e:num}};", "f,r", "R={r:{a:num,b:num,c:num,d:num,e:num,f:num}};");
        move("to seven fields", "R={h:num,r:{a:num,b:num,c:num,d:num,e:num,f:num}};", "h,r", NO);
        lift("with its shape", "R={r:{f:num|text}};", "r,f", "R={f:num|text,r:{}};");
        lift("with its ?", "R={r:{f?:num,z?:num}};", "r,f", "R={f?:num,r:{z?:num}};");
        lift("out of a field with ?", "R={r?:{f:num}};", "r,f", NO);
        lift("out of two parts", "R={r:{f:num}|num};", "r,f", NO);
        lift("out of an @", "R={r:@S};S={f:num};", "r,f", NO);
        lift("out of no { }", "R={r:num};", "r,f", NO);
        lift("beside its like", "R={f:num,r:{f:num}};", "r,f", NO);
        lift("called like what it was in", "R={r:{r:num}};", "r,r", NO);
        lift("to six fields", "R={a:num,b:num,c:num,d:num,r:{f:num}};", "r,f", "R={a:num,b:num,c:num,d:num,f:num,r:{}};");
        lift("to seven fields", "R={a:num,b:num,c:num,d:num,e:num,r:{f:num}};", "r,f", NO);
    }

    private static void wrapping() {
        wrap("a shape of two parts", "R={a?:num|text};", "a,T", "R={a?:T(num|text)};");
        wrap("others stay", "R={a?:text,b:num,c?:num(0..1)|none};", "b,T", "R={a?:text,b:T(num),c?:num(0..1)|none};");
        unwrap("others stay", "R={a?:T(text),b:T(num),c?:num(0..1)|none};", "b", "R={a?:T(text),b:num,c?:num(0..1)|none};");
        retype("others stay", "R={a?:text,b:num,c?:num(0..1)|none};", "b:text='x'", "R={a?:text,b:text,c?:num(0..1)|none};");
        rename("others stay", "R={a?:text,b:num,c?:num(0..1)|none};", "b,d", "R={a?:text,c?:num(0..1)|none,d:num};");
        relax("others stay", "R={a?:text,b:num,c?:num(0..1)|none};", "b", "R={a?:text,b?:num,c?:num(0..1)|none};");
        require("others stay", "R={a?:text,b?:num,c?:num(0..1)|none};", "b=1", "R={a?:text,b:num,c?:num(0..1)|none};");
        drop("others stay", "R={a?:text,b?:num,c?:num(0..1)|none};", "b=1", "R={a?:text,c?:num(0..1)|none};");
        add("others stay", "R={a?:text,c?:num(0..1)|none};", "b?:@R=1", "R={a?:text,b?:@R,c?:num(0..1)|none};");
        split("others stay", "R={a?:text,b:num(0..9),c?:num(0..1)|none};", 5, "b,d,e", "R={a?:text,c?:num(0..1)|none,d:num(0..1),e:num(0..4)};");
        join("others stay", "R={a?:text,b:num(0..9),c?:num(0..1)|none,d:num(0..1)};", 5, "b,d,e", "R={a?:text,c?:num(0..1)|none,e:num(0..46)};");
        wrap("a Tag of 4", "R={a:num};", "a,Abcd", "R={a:Abcd(num)};");
        wrap("a Tag of 5", "R={a:num};", "a,Abcde", "6");
        unwrap("one Tag alone", "R={a?:T(num|text)};", "a", "R={a?:num|text};");
        unwrap("two parts", "R={a:T(num)|num};", "a", NO);
        unwrap("two Tags", "R={a:T(num)|S(num)};", "a", NO);
        unwrap("an @ that leads to a Tag", "R={a:@S};S=T(num);", "a", NO);
        unwrap("no Tag", "R={a:num};", "a", NO);
        unwrap("a list with a Tag", "R={a:[T(num)]};", "a", NO);
    }

    private static void relaxing() {
        relax("without ?", "R={a:num};", "a", "R={a?:num};");
        relax("with ?", "R={a?:num};", "a", NO);
        require("with ?", "R={a?:num};", "a=0", "R={a:num};");
        require("without ?", "R={a:num};", "a=0", NO);
    }

    /** The new schema would not be as told. */
    private static void schemasNotAsTold() {
        retype("6 parts", "R={a:num};", "a:num|num|num|num|num|text=0", "R={a:num|num|num|num|num|text};");
        retype("7 parts", "R={a:num};", "a:num|num|num|num|num|num|text=0", NO);
        retype("two of a kind", "R={a:num};", "a:[num]|[text]=[]", "R={a:[num]|[text]};");
        retype("three of a kind", "R={a:num};", "a:[num]|[text]|[none]=[]", NO);
        retype("two of a kind in itself", "R={a:num};", "a:[num]|[@R]=[]", NO);
        retype("an @ of no definition", "R={a:num};", "a:@S=0", NO);
        retype("an @ to another definition", "R={a:num};S=text;", "a:@S=''", "R={a:@S};S=text;");
        retype("names alike", "R={a:num};", "a:{x:num,x:num}={x:1}", NO);
        retype("seven fields", "R={a:num};", "a:{a?:num,b?:num,c?:num,d?:num,e?:num,f?:num,g?:num}={}", NO);
        retype("six fields", "R={a:num};", "a:{a?:num,b?:num,c?:num,d?:num,e?:num,f?:num}={}", "R={a:{a?:num,b?:num,c?:num,d?:num,e?:num,f?:num}};");
        add("the second shape with two of a kind", "R={a:[num]|[text]};", "b:[num]|[text]=[]", "R={a:[num]|[text],b:[num]|[text]};");
        add("the third shape with two of a kind", "R={a:[num]|[text],b:<num>|<text>};", "c:[num]|[text]=[]", NO);
        add("an @ to a third place", "R={a:@S};S=[num]|[text];", "c:@S=[]", NO);
        String tags = "A(num|num|num|num|num)|B(num|num|num|num|num)|C(num|num|num|num|num)";
        add("24 parts", "R={a:" + tags + "};", "b:num|num|num|num|num=0", "R={a:" + tags + ",b:num|num|num|num|num};");
        add("25 parts", "R={a:" + tags + "};", "b:num|num|num|num|num|num=0", NO);
        wrap("24 parts", "R={a:" + tags + ",b:num|num|num|num};", "b,T", "R={a:" + tags + ",b:T(num|num|num|num)};");
        wrap("25 parts", "R={a:" + tags + ",b:num|num|num|num|num};", "b,T", NO);
        // the root is the first bracket, so that 11 others stand in a field
        String eleven = "[".repeat(11) + "num" + "]".repeat(11);
        add("12 brackets", "R={};", "a:" + eleven + "=[]", "R={a:" + eleven + "};");
        add("13 brackets", "R={};", "a:[" + eleven + "]=[]", NO);
        add("num( inside 12 brackets", "R={};", "a:" + eleven.replace("num", "num(0..1)") + "=[]", NO);
        wrap("12 brackets", "R={a:" + eleven.substring(1, eleven.length() - 1) + "};", "a,T", "R={a:T(" + eleven.substring(1, eleven.length() - 1) + ")};");
        wrap("13 brackets", "R={a:" + eleven + "};", "a,T", NO);
        move("13 brackets", "R={f:" + eleven + ",r:{}};", "f,r", NO);
        C.is("P11 parts of other definitions count", changed("R={a:" + tags + "};S=num|num|num|num|num;", ShapeLang.ADD, 0, 0, "b:num=0"), NO);
        C.is("P11 parts of other definitions count up to 24", changed("R={a:" + tags + "};S=num|num|num|num;", ShapeLang.ADD, 0, 0, "b:num=0"), "R={a:" + tags + ",b:num};S=num|num|num|num;");
    }

    /** By the old definitions for DROP, RELAX and RETYPE as it was, by the new ones for ADD, REQUIRE and RETYPE as it is. */
    private static void shapesWithoutValues() {
        add("none", "R={};", "a:none=0", NO);
        add("none with ?", "R={};", "a?:none=0", NO);
        add("the second one none", "R={};", "b:num=0,a:none=0", NO);
        add("a list of none that can be empty", "R={};", "a:[none]=0", "R={a:[none]};");
        add("a list of none that cannot", "R={};", "a:[none;1..8]=0", NO);
        add("itself", "R={};", "a:@R=0", NO);
        add("itself with ?", "R={};", "a?:@R=0", "R={a?:@R};");
        drop("none", "R={a?:none};", "a=0", NO);
        drop("none by the old definitions", "R={a:@R};", "a=(1)", NO);
        drop("a sum for a shape with values", "R={a?:@R};", "a=(1)", "R={};");
        relax("none", "R={a:none};", "a", NO);
        relax("none by the old definitions", "R={a:@R};", "a", NO);
        relax("with values", "R={a:@R|num};", "a", "R={a?:@R|num};");
        require("none", "R={a?:none};", "a=(1)", NO);
        require("none by the new definitions", "R={a?:@R};", "a=(1)", NO);
        require("with values by the new ones", "R={a?:@R|num};", "a=(1)", "R={a:@R|num};");
        retype("as it was none", "R={a:none};", "a:num=0", NO);
        retype("as it was none by the old definitions", "R={a:@R};", "a:num=0", NO);
        retype("as it is none", "R={a:num};", "a:none=(1)", NO);
        retype("as it is none by the new definitions", "R={a:num};", "a:@R=(1)", NO);
        retype("as it is with values by the new ones", "R={a?:num};", "a:@R=(1)", "R={a?:@R};");
        rename("none does not count", "R={a:none};", "a,b", "R={b:none};");
        wrap("none does not count", "R={a:none};", "a,T", "R={a:T(none)};");
        unwrap("none does not count", "R={a:T(none)};", "a", "R={a:none};");
        move("none does not count", "R={a:none,r:{}};", "a,r", "R={r:{a:none}};");
        lift("none does not count", "R={r:{a:none}};", "r,a", "R={a:none,r:{}};");
    }

    /** 60 nodes, however deep: 6 lists of 8 in a record are 55, and with a list of 5 in place of a number 60. */
    private static void sixtyNodes() {
        String eights = "a:@E,b:@E,c:@E,d:@E,e:@E,f:";
        String sixty = "{" + eights + "[num;8..8]}";
        for (int i = 0; i < 2; i++) {
            String last = i == 0 ? "{a:[num;6..6],b:[num;5..5]}" : "{a:[num;6..6],b:[num;6..6]}";
            String whole = "{" + eights + last + "}";
            String rest = ";E=[num;8..8];S=" + whole + ";";
            boolean fits = i == 0;
            add("nodes of a shape", "R={}" + rest, "a:@S=0", fits ? "R={a:@S}" + rest : NO);
            add("nodes of a shape with ?", "R={}" + rest, "a?:@S=0", fits ? "R={a?:@S}" + rest : NO);
            drop("nodes of a shape", "R={a:@S}" + rest, "a=(1)", fits ? "R={}" + rest : NO);
            relax("nodes of a shape", "R={a:@S}" + rest, "a", fits ? "R={a?:@S}" + rest : NO);
            require("nodes of a shape", "R={a?:@S}" + rest, "a=(1)", fits ? "R={a:@S}" + rest : NO);
            retype("nodes of a shape as it was", "R={a:@S}" + rest, "a:num=0", fits ? "R={a:num}" + rest : NO);
            retype("nodes of a shape as it is", "R={a:num}" + rest, "a:@S=(1)", fits ? "R={a:@S}" + rest : NO);
        }
        add("fewer nodes", "R={};E=[num;8..8];S=" + sixty + ";", "a:@S=0", "R={a:@S};E=[num;8..8];S=" + sixty + ";");
        String ten = "A(B(C(D(A(B(C(D(A(B(@T))))))))))";
        String deep = ";S=" + ten + ";T=" + ten.replace("@T", "num") + ";";
        add("deeper than a slot", "R={}" + deep, "a:@S=0", "R={a:@S}" + deep);
        drop("deeper than a slot", "R={a:@S}" + deep, "a=(1)", "R={}" + deep);
        relax("deeper than a slot", "R={a:@S}" + deep, "a", "R={a?:@S}" + deep);
    }

    /** Defaults that are values: of the shape of the field, but for those of ADD. */
    private static void defaults() {
        add("not of the shape", "R={};", "a:num='x'", "R={a:num};");
        drop("just of the shape", "R={a:num(0..3)};", "a=3", "R={};");
        drop("just not of the shape", "R={a:num(0..3)};", "a=4", NO);
        drop("of the shape by the old definitions", "R={a:@R|num};", "a={a:5}", "R={};");
        drop("not of the shape by the old definitions", "R={a:@R|num};", "a={}", NO);
        retype("just of the new shape", "R={a:num};", "a:num(0..3)=3", "R={a:num(0..3)};");
        retype("just not of the new shape", "R={a:num};", "a:num(0..3)=4", NO);
        retype("of the new shape by the new definitions", "R={a?:num};", "a:@R={a:{}}", "R={a?:@R};");
        retype("not of the new shape by the new definitions", "R={a?:num};", "a:@R={a:1}", NO);
        require("just of the shape", "R={a?:num(0..3)};", "a=0", "R={a:num(0..3)};");
        require("just not of the shape", "R={a?:num(0..3)};", "a=-1", NO);
        require("of the shape by the new definitions", "R={a?:@R|num};", "a={a:5}", "R={a:@R|num};");
        require("not of the shape by the new definitions", "R={a?:@R|num};", "a={}", NO);
    }

    /** Sums name fields of the definition, the new one but for DROP. */
    private static void sums() {
        add("of the old ones", "R={a:text};", "b:num=(a)", "R={a:text,b:num};");
        add("of those that come", "R={};", "a:num=(b),b:num=1", "R={a:num,b:num};");
        add("none of the definition", "R={a:num};", "b:num=(c)", NO);
        add("none of the definition, but of another one", "R={a:num};S={c:num};", "b:num=(c)", NO);
        add("none of the definition, deep in the sum", "R={a:num};", "b:num=(a+(1*(a-cc)))", NO);
        add("the second default", "R={a:num};", "b:num=1,c:num=(d)", NO);
        add("itself", "R={a:num};", "b:num=(b)", NO);
        for (String name : new String[] {"z", "zz", "az", "za", "abcz", "zzzz"}) {
            add("none of the definition, " + name, "R={a:num};", "b:num=(" + name + ")", NO);
            add("none of the definition behind another one, " + name, "R={a:num};", "b:num=(a*" + name + ")", NO);
            add("one of the definition, " + name, "R={" + name + ":num};", "b:num=(" + name + ")", name.length() == 1 ? "R={b:num,z:num};" : "R={b:num," + name + ":num};");
        }
        add("of a field that is no number", "R={a:num};", "b:text=(a)", "R={a:num,b:text};");
        drop("another one", "R={a:num,b:num};", "a=(b)", "R={b:num};");
        drop("itself", "R={a:num,b:num};", "a=(a)", NO);
        drop("itself beside another one", "R={a:num,b:num};", "a=(b-a)", NO);
        drop("none of the definition", "R={a:num};", "a=(b)", NO);
        retype("another one", "R={a:num,b:num};", "a:num=(b)", "R={a:num,b:num};");
        retype("itself", "R={a:num,b:num};", "a:num=(a)", NO);
        retype("none of the definition", "R={a:num};", "a:num=(b)", NO);
        require("another one", "R={a?:num,b?:num};", "a=(b)", "R={a:num,b?:num};");
        require("itself", "R={a?:num,b:num};", "a=(a)", NO);
        require("none of the definition", "R={a?:num};", "a=(b)", NO);
    }

    private static void rings() {
        add("two", "R={};", "a:num=(b),b:num=(a)", NO);
        add("three", "R={};", "a:num=(b),b:num=(c),c:num=(a)", NO);
        add("two, named behind others", "R={a:num};", "b:num=(a+c),c:num=(a-b)", NO);
        add("two, named behind INTs", "R={};", "b:num=(1*c),c:num=(2+(3*b))", NO);
        add("two, named last of four", "R={a:num,d:num};", "b:num=(a+d+a+c),c:num=(a+d+d+b)", NO);
        add("two beside others", "R={z:num};", "a:num=(z),b:num=(c+a),c:num=(b)", NO);
        add("six in a row", "R={};", "a:num=(b),b:num=(c),c:num=(d),d:num=(e),e:num=(f),f:num=1", "R={a:num,b:num,c:num,d:num,e:num,f:num};");
        add("six in a ring", "R={};", "a:num=(b),b:num=(c),c:num=(d),d:num=(e),e:num=(f),f:num=(a)", NO);
        add("two on one", "R={};", "a:num=(c),b:num=(c),c:num=(1)", "R={a:num,b:num,c:num};");
        add("names that begin alike", "R={};", "a:num=(aa),aa:num=(aaa),aaa:num=1", "R={a:num,aa:num,aaa:num};");
    }

    private static void faults() {
        int[] kinds = {ShapeLang.ADD, ShapeLang.DROP, ShapeLang.RENAME, ShapeLang.SPLIT, ShapeLang.JOIN, ShapeLang.MOVE, ShapeLang.LIFT,
            ShapeLang.RETYPE, ShapeLang.WRAP, ShapeLang.UNWRAP, ShapeLang.RELAX, ShapeLang.REQUIRE};
        String[] good = {"b:num=0", "a=0", "a,b", "a,b,c", "a,b,c", "a,b", "a,b", "a:num=0", "a,T", "a", "a", "a=0"};
        for (int kind : kinds) {
            int n = kind == ShapeLang.SPLIT || kind == ShapeLang.JOIN ? 2 : 0;
            String text = good[kind];
            for (int cut = 0; cut < text.length(); cut++) {
                is("an early end of kind " + kind, "R={a:num};", kind, n, text.substring(0, cut), "" + cut);
            }
            is("a sign behind of kind " + kind, "R={a:num};", kind, n, text + ";", "" + text.length());
            is("a blank ahead of kind " + kind, "R={a:num};", kind, n, " " + text, "0");
            is("a capital of kind " + kind, "R={a:num};", kind, n, "B", "0");
            is("a name of 5 of kind " + kind, "R={a:num};", kind, n, "abcde", "4");
        }
        String schema = "R={a:num};";
        rename("three names", schema, "a,b,c", "3");
        split("four names", schema, 2, "a,b,c,d", "5");
        wrap("a small tag", schema, "a,t", "2");
        relax("a default", schema, "a=0", "1");
        require("no default", schema, "a", "1");
        retype("a ?", schema, "a?:num=0", "1");
        add("a ?", schema, "b?:num=0", "R={a:num,b?:num};");
        add("4 INTs and names", schema, "b:num=(1+a*(2-a))", "R={a:num,b:num};");
        add("5 INTs and names", schema, "b:num=(1+a*(2-a)+1)", "20");
        add("5 names", schema, "b:num=(a+a+a+a+a)", "18");
        add("4 in each of two defaults", schema, "b:num=(1+1+1+1),c:num=(1+1+1+1)", "R={a:num,b:num,c:num};");
        add("5 in the first default", schema, "b:num=(1+1+1+1+1),c:num=1", "26");
        add("5 and another fault", schema, "b:num=(1+1+1+1+1),", "18");
        add("5 and another fault in the sum", schema, "b:num=(1+1+1+1+1+)", "17");
        add("an empty sum", schema, "b:num=()", "7");
        add("a sum without its bracket", schema, "b:num=a", "6");
        add("a sign twice", schema, "b:num=(1++1)", "9");
        add("a / in a sum", schema, "b:num=(1/1)", "8");
        add("an INT of 5", schema, "b:num=(10000)", "11");
        add("an INT with leading 0", schema, "b:num=(01)", "8");
        add("- ahead of 0", schema, "b:num=(-0)", "8");
        add("- ahead of a name", schema, "b:num=(-a)", "8");
        add("- ahead of a bracket", schema, "b:num=(-(a))", "8");
        add("a name of 5 in a sum", schema, "b:num=(abcde)", "11");
        add("12 brackets in a sum", schema, "b:num=" + "(".repeat(12) + "a" + ")".repeat(12), "R={a:num,b:num};");
        add("13 brackets in a sum", schema, "b:num=" + "(".repeat(13) + "a" + ")".repeat(13), "18");
        add("12 brackets in a value", schema, "b:num=" + "[".repeat(12) + "]".repeat(12), "R={a:num,b:num};");
        add("13 brackets in a value", schema, "b:num=" + "[".repeat(13) + "]".repeat(13), "18");
        add("13 brackets in a shape", schema, "b:" + "[".repeat(13) + "num" + "]".repeat(13) + "=0", "14");
        // what counts as a fault, and what the change is refused by
        add("INTs that fall", schema, "b:num(2..1)=0", "14");
        add("INTs of lists beyond 8", schema, "b:[num;0..9]=0", "15");
        add("9 items", schema, "b:text(abcdefghi)=0", "20");
        add("3 behind *", schema, "b:text(a*bcd)=0", "16");
        add("names that fall in a value", schema, "b:num={b:1,a:1}", "16");
        add("keys alike in a value", schema, "b:num=<'a':1,'a':1>", "20");
        add("9 items of a value", schema, "b:num=[1,2,3,4,5,6,7,8,9]", "26");
        String seven = "[0,0,0,0,0,0,0]";
        String value = "[" + seven + ("," + seven).repeat(6) + ",[0,0,0]]";
        add("61 nodes of a value", schema, "b:num=" + value, "" + (6 + value.length() + 1));
        add("60 nodes of a value", schema, "b:num=" + value.replace("[0,0,0]]", "[0,0]]"), "R={a:num,b:num};");
        add("a fault and an early end", schema, "b:num(2..1)", "11");
        add("names alike in a { }", schema, "b:{x:num,x:num}=0", NO);
        add("7 fields in a { }", schema, "b:{a:num,b:num,c:num,d:num,e:num,f:num,g:num}=0", NO);
        add("7 parts", schema, "b:num|num|num|num|num|num|num=0", NO);
        add("8 parts", schema, "b:num|num|num|num|num|num|num|num=0", NO);
        add("an @ of no definition", schema, "b:@S=0", NO);
        add("three lists", schema, "b:[num]|[num]|[num]=0", NO);
        add("many parts", schema, "b:[num" + "|num".repeat(30) + "]=0", NO);
        add("many fields", schema, "b:{x:num" + ",x:num".repeat(30) + "}=0", NO);
        add("fields of a { } that fall are none", schema, "b:{y:num,x:num}={x:1,y:2}", "R={a:num,b:{x:num,y:num}};");
    }

    /** 12 versions, whatever they come of. */
    private static void twelve() {
        ShapeLang x = new ShapeLang();
        Check.begin(x, "R={a:num};");
        for (int v = 1; v < 12; v++) {
            Check.feed(x, v % 2 == 0 ? "b,a" : "a,b");
            C.is("P11 up to 12", x.change(v - 1, ShapeLang.RENAME, 0, 0), v);
            C.is("P13 its parent", x.parent(v), v - 1);
        }
        Check.feed(x, "b,a");
        C.noState("P11 the 13th", () -> x.change(11, ShapeLang.RENAME, 0, 0));
        C.is("P12 12", x.versions(), 12);
        C.is("P3 no fault", x.fault(), ShapeLang.NONE);
        C.is("P13 the first one", x.parent(0), ShapeLang.NONE);
        C.is("P14 the last one", Check.schema(x, 11), "R={b:num};");
        Check.put(x, 0, "{a:7}");
        C.is("P22 over all of them", x.convert(0, 11, 0, 1), 2);
        C.is("P22 its value", Check.show(x, 1), "{b:7}");
        C.is("P22 and back", x.convert(11, 0, 1, 2), 2);
        C.is("P22 its value", Check.show(x, 2), "{a:7}");
        ShapeLang y = new ShapeLang();
        Check.begin(y, "R={a:num};");
        Check.feed(y, "c,d");
        C.noState("P11 refused", () -> y.change(0, ShapeLang.RENAME, 0, 0));
        Check.feed(y, "a,d");
        C.is("P11 one that is not refused behind one that is", y.change(0, ShapeLang.RENAME, 0, 0), 1);
        C.is("P14 its schema", Check.schema(y, 1), "R={d:num};");
        Check.feed(y, "a,e");
        C.is("P11 a second one of the same parent", y.change(0, ShapeLang.RENAME, 0, 0), 2);
        C.is("P13 its parent", y.parent(2), 0);
    }
}
