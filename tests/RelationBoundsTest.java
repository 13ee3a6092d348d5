/** The bounds of the sections "Parts of one another" and "Inferring": 60 nodes, however deep, NONE, and what is not inferred. */
public final class RelationBoundsTest {
    private static final Check C = new Check();
    private static final int NONE = ShapeLang.NONE;

    interface Call {
        int of(ShapeLang x);
    }

    /** What a call of two schemas answers, and its out; nodes NONE and an empty text if there is none. */
    private static void told(String what, String one, String other, int nodes, String due, Call call) {
        ShapeLang x = new ShapeLang();
        Check.begin(x, one);
        Check.begin(x, other);
        Check.put(x, 0, "'out'");
        x.show(0);
        C.is(what + ": " + one + " " + other, call.of(x), nodes);
        C.is(what + ": the out", Check.out(x), due);
        C.is(what + ": its length", x.length(), due.length());
    }

    private static void witness(String what, String one, String other, int nodes, String due) {
        told("P18 " + what, one, other, nodes, due, x -> x.witness(0, 0, 1, 0));
    }

    private static void common(String what, String one, String other, int nodes, String due) {
        told("P19 " + what, one, other, nodes, due, x -> x.common(0, 0, 1, 0));
        told("P19 the other way, " + what, one, other, nodes, due, x -> x.common(1, 0, 0, 0));
    }

    private static void least(String what, String one, int nodes, String due) {
        told("P20 " + what, one, "T=text;", nodes, due, x -> x.least(0, 0));
    }

    private static void plain(String what, String schema, boolean due) {
        ShapeLang x = new ShapeLang();
        Check.begin(x, schema);
        C.is("P16 " + what + ": " + schema, x.isPlain(0) ? 1 : 0, due ? 1 : 0);
    }

    /** What is inferred, told without V= and ; or an empty text if nothing is. */
    private static void infer(String what, int growth, String due, String... values) {
        ShapeLang x = new ShapeLang();
        for (int i = 0; i < values.length; i++) {
            Check.put(x, i, values[i]);
        }
        int all = (1 << values.length) - 1;
        if (due.isEmpty()) {
            C.noState("P21 " + what, () -> x.infer(all, growth));
            C.is("P21 nothing began: " + what, x.versions(), 0);
        } else {
            try {
                C.is("P21 number: " + what, x.infer(all, growth), 0);
                C.is("P21 " + what, Check.schema(x, 0), "V=" + due + ";");
                C.is("P21 no parent: " + what, x.parent(0), NONE);
            } catch (IllegalStateException e) {
                C.is("P21 " + what, "nothing", due);
            }
        }
    }

    private static String row(String one, int count) {
        return count == 0 ? "" : one + ("," + one).repeat(count - 1);
    }

    public static void main(String[] args) {
        sixtyNodes();
        deepOnes();
        none();
        firstOnes();
        plainOnes();
        samples();
        manyParts();
        manyNames();
        deepSamples();
        inferCalls();
        C.end("RelationBoundsTest");
    }

    /** Five lists of 8 in a record are 46 nodes; its last field has the rest. */
    private static void sixtyNodes() {
        String told = "[" + row("0", 8) + "]";
        String five = "{a:@E,b:@E,c:@E,d:@E,e:@E,f:";
        String fiveTold = "{a:" + told + ",b:" + told + ",c:" + told + ",d:" + told + ",e:" + told + ",f:";
        String eight = "E=[num;8..8];";
        String[] fourteen = {"A([[num;5..5];2..2])", "[[num;5..5]|[num;6..6];2..2]|A([[num;5..5];2..2])", "{a:[num;6..6],b:[num;5..5]}", "A(B([num;2..2]|[[num;5..5];2..2]))", "A(B(C([num;7..7]|@E)))"};
        String[] nodes = {"60", "59", "60", "51", "57"};
        String[] last = {"A([[0,0,0,0,0],[0,0,0,0,0]])", "[[0,0,0,0,0],[0,0,0,0,0]]", "{a:[0,0,0,0,0,0],b:[0,0,0,0,0]}", "A(B([0,0]))", "A(B(C([0,0,0,0,0,0,0])))"};
        for (int i = 0; i < last.length; i++) {
            String schema = "R=" + five + fourteen[i] + "};" + eight;
            int n = Integer.parseInt(nodes[i]);
            least("60 nodes at most", schema, n, fiveTold + last[i] + "}");
            witness("60 nodes at most", schema, "T=text;", n, fiveTold + last[i] + "}");
            common("60 nodes at most", schema, schema, n, fiveTold + last[i] + "}");
        }
        String[] fifteen = {"A(B([[num;5..5];2..2]))", "[[num;6..6];2..2]", "{a:[num;6..6],b:[num;6..6]}", "[@E;2..2]|A(@E|[@E;2..2])"};
        for (int i = 0; i < fifteen.length; i++) {
            String schema = "R=" + five + fifteen[i] + "};" + eight;
            boolean less = i == 3;
            String due = less ? fiveTold + "A(" + told + ")}" : "";
            least("61 nodes", schema, less ? 56 : NONE, due);
            witness("61 nodes", schema, "T=text;", less ? 56 : NONE, due);
            common("61 nodes", schema, schema, less ? 56 : NONE, due);
        }
        witness("a part, since only values with 61 nodes are not of it", "R=num|" + five + fifteen[1] + "};" + eight, "T=num;", NONE, "");
        witness("no part, since values with 60 nodes are not of it", "R=num|" + five + fourteen[0] + "};" + eight, "T=num;", 60, fiveTold + last[0] + "}");
        plain("60 nodes in common", "R=@S|@S;S=" + five + fourteen[0] + "};" + eight, false);
        plain("only 61 nodes in common", "R=@S|@S;S=" + five + fifteen[1] + "};" + eight, true);
    }

    /** Values can be deeper than one in a slot: 60 nodes are 59 lists around a number. */
    private static void deepOnes() {
        String ten = "A(B(C(D(A(B(C(D(A(B(num))))))))))";
        String more = ten.replace("num", "E(@T)");
        String told = ten.replace("num", more.replace("@T", "0"));
        String chain = "R=" + ten.replace("num", "@S") + ";S=" + more + ";T=num;";
        least("21 tags", chain, 22, told);
        witness("21 tags", chain, "T=text;", 22, told);
        common("21 tags", chain, chain, 22, told);
        // some lists, and 5 more as often as one likes; as many lists, and 11 more at least once
        String five = "S=num(0..0)|" + lists(5, "@S") + ";";
        String eleven = "T=" + lists(11, "@S") + ";S=num|@T;";
        common("59 lists", "R=" + lists(4, "@S") + ";" + five, "R=" + lists(4, "@T") + ";" + eleven, 60, "[".repeat(59) + "0" + "]".repeat(59));
        common("60 lists are 61 nodes", "R=" + lists(5, "@S") + ";" + five, "R=" + lists(5, "@T") + ";" + eleven, NONE, "");
        common("58 lists", "R=" + lists(3, "@S") + ";" + five, "R=" + lists(3, "@T") + ";" + eleven, 59, "[".repeat(58) + "0" + "]".repeat(58));
        common("lists that never end alike", "R=[@S;1..1];S=num|" + lists(6, "@S") + ";", "R=@S;S=num|" + lists(4, "@S") + ";", NONE, "");
    }

    private static String lists(int count, String inner) {
        return "[".repeat(count) + inner + ";1..1]".repeat(count);
    }

    private static void none() {
        least("none", "R=none;", NONE, "");
        least("a field that is none", "R={a:none};", NONE, "");
        least("a field that may be none", "R={a?:none};", 1, "{}");
        least("a list that must have one", "R=[none;1..8];", NONE, "");
        least("a list that need not", "R=[none];", 1, "[]");
        least("a map of none", "R=<none>;", 1, "<>");
        least("a tag of none", "R=A(none);", NONE, "");
        least("endless", "R={a:@R};", NONE, "");
        least("endless over others", "R=A(@S);S=[@T;1..2];T={r:@R,s?:num};", NONE, "");
        least("not endless", "R=A(@S);S=[@T;0..2];T={r:@R};", 2, "A([])");
        common("a number and a text", "R=num;", "R=text;", NONE, "");
        common("numbers that do not meet", "R=num(0..4);", "R=num(5..9);", NONE, "");
        common("numbers that just meet", "R=num(0..5);", "R=num(5..9);", 1, "5");
        common("lists that do not meet", "R=[num;0..3];", "R=[num;4..8];", NONE, "");
        common("lists that just meet", "R=[num;0..3];", "R=[num;3..8];", 4, "[0,0,0]");
        common("records with other fields", "R={a:num};", "R={b:num};", NONE, "");
        common("records with fields that may miss", "R={a?:num};", "R={b?:num};", 1, "{}");
        common("records whose field does not meet", "R={a:num(0..4)};", "R={a:num(5..9)};", NONE, "");
        common("records whose field may miss", "R={a?:num(0..4)};", "R={a?:num(5..9)};", 1, "{}");
        common("tags unlike", "R=A(num);", "R=B(num);", NONE, "");
        common("maps always meet", "R=<num>;", "R=<text>;", 1, "<>");
        common("a list and a map", "R=[num];", "R=<num>;", NONE, "");
        witness("none is part of all", "R=none;", "R=none;", NONE, "");
        witness("nothing but none is part of none", "R=num(9..9)|none;", "R=none;", 1, "9");
        witness("numbers that are all there", "R=num(0..9);", "R=num(0..9);", NONE, "");
        witness("one number more", "R=num(0..9);", "R=num(0..8);", 1, "9");
        witness("one number less", "R=num(0..9);", "R=num(1..9);", 1, "0");
        witness("all numbers, by two parts", "R=num;", "R=num(-9999..-1)|num(0..9999);", NONE, "");
        witness("all but one number, by two parts", "R=num;", "R=num(-9999..-2)|num(0..9999);", 1, "-1");
        witness("the greatest number", "R=num;", "R=num(-9999..9998);", 1, "9999");
        witness("the least number", "R=num;", "R=num(-9998..9999);", 1, "-9999");
        witness("lists of 8", "R=[num];", "R=[num;0..7];", 9, "[0,0,0,0,0,0,0,0]");
        witness("texts of 8", "R=text;", "R=text(.?.?.?)|text(....)|text(.....)|text(......)|text(.......);", 1, "'aaaaaaaa'");
        witness("all texts", "R=text;", "R=text(.?.?.?)|text(....)|text(.....)|text(......)|text(.......)|text(........);", NONE, "");
        witness("texts of 9 do not count", "R=text(a*b*c*);", "R=text(.*);", NONE, "");
        witness("the last letter", "R=text(.);", "R=text(a)|text(b)|text(c)|text(d)|text(e)|text(f);", 1, "'g'");
        witness("maps of 8", "R=<num>;", "R=<num(0..0)>|<num(1..1)>;", 2, "<'':-1>");
    }

    private static void firstOnes() {
        least("the fewest nodes", "R=[num;1..1]|text(b);", 1, "'b'");
        least("kinds in their order", "R=<num>|A(num)|{}|[num]|text|num;", 1, "0");
        least("kinds without numbers", "R=<num>|A(num)|{}|[num]|text;", 1, "''");
        least("kinds without texts", "R=<num>|{}|[num];", 1, "[]");
        least("kinds without lists", "R=<num>|{};", 1, "{}");
        least("tags in their order", "R=B(num)|Aa(num)|A(text);", 2, "A('')");
        least("a tag ahead of a map", "R={a:num}|B(num)|[num;1..1];", 2, "[0]");
        least("positive ones first", "R=num(-5..-5)|num(5..5);", 1, "5");
        least("nearest to 0", "R=num(-4..-4)|num(5..5);", 1, "-4");
        least("fewest letters", "R=text(zz)|text(aaa);", 1, "'zz'");
        least("names in their order", "R={b:num}|{a:text};", 2, "{a:''}");
        least("fewer fields first", "R={a:num,b:num}|{c:[num;1..1]};", 3, "{c:[0]}");
    }

    private static void plainOnes() {
        plain("numbers that just do not meet", "R=num(0..4)|num(5..9);", true);
        plain("numbers that just meet", "R=num(0..5)|num(5..9);", false);
        plain("parts inside a list", "R=[num(0..5)|num(5..9)];", false);
        plain("parts inside a field", "R={a:num(0..5)|num(5..9)};", false);
        plain("parts inside a map", "R=<num(0..5)|num(5..9)>;", false);
        plain("parts inside a tag", "R=A(num(0..5)|num(5..9));", false);
        plain("parts of another definition", "R=num;S=text|text(a);", false);
        plain("parts to which an @ leads", "R=num|@S;S=text|num(3..3);", false);
        plain("parts to which an @ leads alone", "R=[@S];S=text|num(3..3);", true);
        plain("none meets nothing", "R=none|none|num;", true);
        plain("parts that are in no value", "R={a:none,b:num|num};", false);
        plain("texts that meet in the empty one", "R=text(a*)|text(b*);", false);
        plain("texts that do not meet", "R=text(a.*)|text(b.*);", true);
        plain("maps", "R=<num>|<text>;", false);
        plain("lists", "R=[num;1..8]|[text];", true);
    }

    private static void samples() {
        infer("no samples", 1, "none");
        infer("one number", 1, "num(5..5)", "5");
        infer("numbers", 4, "num(-3..9)", "9", "0", "-3");
        infer("all numbers", 4, "num", "9999", "-9999");
        infer("nearly all numbers", 4, "num(-9998..9999)", "9999", "-9998");
        infer("texts as many as the growth 1", 1, "text(b)", "'b'", "'b'");
        infer("texts more than the growth 1", 1, "text", "'b'", "'a'");
        infer("texts as many as the growth 2", 2, "text(b)|text(aa)", "'aa'", "'b'", "'aa'");
        infer("texts more than the growth 2", 2, "text", "'aa'", "'b'", "'a'");
        infer("texts as many as the growth 3", 3, "text(a)|text(b)|text(aa)", "'aa'", "'b'", "'a'");
        infer("texts more than the growth 3", 3, "text", "'aa'", "'b'", "'a'", "'c'");
        infer("texts as many as the growth 4", 4, "text(a)|text(b)|text(c)|text(abcdefgh)", "'abcdefgh'", "'b'", "'a'", "'c'", "'c'");
        infer("texts more than the growth 4", 4, "text", "'aa'", "'b'", "'a'", "'c'", "'d'");
        infer("the empty text", 4, "text", "''");
        infer("the empty text among others", 4, "text", "''", "'a'");
        infer("lists", 1, "[num(1..3);0..2]", "[]", "[1,3]");
        infer("lists of 8", 1, "[num(0..0)]", "[]", "[" + row("0", 8) + "]");
        infer("lists of 1 to 8", 1, "[num(0..0);1..8]", "[0]", "[" + row("0", 8) + "]");
        infer("empty lists", 1, "[none;0..0]", "[]");
        infer("items of all of them", 1, "[num(1..1)|text(a)|[none;0..0];1..1]", "[1]", "['a']", "[[]]");
        infer("empty records", 1, "{}", "{}", "{}");
        infer("fields that are missing", 1, "{a?:num(1..2),b:num(5..6)}", "{a:1,b:5}", "{a:2,b:6}", "{b:5}");
        infer("tags", 1, "A(num(1..2))|B(text(x))|Aa(num(0..0))", "B('x')", "Aa(0)", "A(2)", "A(1)");
        infer("maps", 1, "<num(1..1)|text>", "<'a':1>", "<'':1,'b':''>");
        infer("empty maps", 1, "<none>", "<>");
        infer("all kinds in their order", 1, "num(1..1)|text(a)|[none;0..0]|{}|A(num(2..2))|<none>", "<>", "A(2)", "{}", "[]", "'a'", "1");
    }

    private static void manyParts() {
        infer("6 parts, two of them of texts", 2, "num(1..1)|text(a)|text(b)|[none;0..0]|{}|A(num(2..2))", "1", "'a'", "'b'", "[]", "{}", "A(2)");
        infer("7 parts, and 6 with one for texts", 2, "num(1..1)|text|[none;0..0]|{}|A(num(2..2))|<none>", "1", "'a'", "'b'", "[]", "{}", "A(2)", "<>");
        infer("8 parts, and 7 with one for texts", 2, "", "1", "'a'", "'b'", "[]", "{}", "A(2)", "B(2)", "<>");
        infer("7 parts, and 6 with one for texts, with two tags", 2, "text|[none;0..0]|{}|A(num(2..2))|B(num(2..2))|<none>", "'a'", "'b'", "[]", "{}", "A(2)", "B(2)", "<>");
        infer("7 parts without texts", 4, "", "1", "[]", "{}", "<>", "A(1)", "B(1)", "C(1)");
        infer("6 parts without texts", 4, "num(1..1)|[none;0..0]|{}|A(num(1..1))|B(num(1..1))|<none>", "1", "[]", "{}", "<>", "A(1)", "B(1)");
        infer("6 tags", 4, "A(num(1..1))|B(num(1..1))|C(num(1..1))|D(num(1..1))|E(num(1..1))|F(num(1..1))", "A(1)", "B(1)", "C(1)", "D(1)", "E(1)", "F(1)");
        infer("7 tags", 4, "", "A(1)", "B(1)", "C(1)", "D(1)", "E(1)", "F(1)", "G(1)");
        infer("6 tags and a text", 4, "", "A(1)", "B(1)", "C(1)", "D(1)", "E(1)", "F(1)", "'a'");
        infer("3 tags, 3 texts", 3, "text(a)|text(b)|text(c)|A(num(1..1))|B(num(1..1))|C(num(1..1))", "A(1)", "B(1)", "C(1)", "'a'", "'b'", "'c'");
        infer("3 tags, 4 texts", 4, "text|A(num(1..1))|B(num(1..1))|C(num(1..1))", "A(1)", "B(1)", "C(1)", "'a'", "'b'", "'c'", "'d'");
        infer("inside: 3 tags, 4 texts", 4, "[text|A(num(1..1))|B(num(1..1))|C(num(1..1));7..7]", "[A(1),B(1),C(1),'a','b','c','d']");
        infer("inside: 7 parts", 4, "", "{a:[1,[],{},<>,A(1),B(1),C(1)]}");
        // a record and 6 fields of 3 parts and one of 4: 24 and 25 parts, with those of the lists
        String three = "{a:[1,'a',{}],b:[1,'a',{}],c:[1,'a',{}],d:[1,'a',{}],e:[1,'a',{}],f:";
        String told = "[num(1..1)|text(a)|{};3..3]";
        String fields = "{a:" + told + ",b:" + told + ",c:" + told + ",d:" + told + ",e:" + told + ",f:";
        infer("24 parts", 1, fields + "[num(1..1)|text(a);2..2]}", three + "[1,'a']}");
        infer("25 parts", 1, "", three + "[1,'a',{}]}");
        infer("texts are not told as text alone for 25 parts", 2, "", three + "['a','b',1]}");
    }

    private static void manyNames() {
        infer("6 names", 1, "{a:num(1..1),b:num(2..2),c:num(3..3),d:num(4..4),e:num(5..5),f:num(6..6)}", "{a:1,b:2,c:3,d:4,e:5,f:6}");
        infer("7 names", 1, "<num(1..7)>", "{a:1,b:2,c:3,d:4,e:5,f:6,g:7}");
        infer("6 names in two", 1, "{a?:num(1..1),b?:num(2..2),c?:num(3..3),d?:num(4..4),e?:num(5..5),f?:num(6..6)}", "{a:1,b:2,c:3}", "{d:4,e:5,f:6}");
        infer("7 names in two", 1, "<num(1..7)>", "{a:1,b:2,c:3,d:7}", "{d:4,e:5,f:6,g:4}");
        infer("7 names and maps are one < >", 1, "num(0..0)|A(num(1..1))|<num(1..7)|text(z)>", "{a:1,b:2,c:3,d:4,e:5,f:6,g:7}", "<'z':'z'>", "0", "A(1)");
        infer("6 names and a map", 1, "{a:text(q)}|<num(1..1)>", "{a:'q'}", "<'x':1>");
        infer("7 names and items of lists", 1, "[text(q);1..1]|A(text(r))|<num(1..7)>", "{a:1,b:2,c:3,d:4,e:5,f:6,g:7}", "['q']", "A('r')");
        infer("7 names with empty ones", 1, "<num(1..7)>", "{}", "{a:1,b:2,c:3,d:4,e:5,f:6,g:7}");
        infer("7 names inside", 1, "[<num(1..7)>;1..1]", "[{a:1,b:2,c:3,d:4,e:5,f:6,g:7}]");
        infer("8 names", 1, "<num(1..8)>", "{a:1,b:2,c:3,d:4,e:5,f:6,g:7,h:8}");
        infer("7 names beside 5 other kinds", 1, "num(1..1)|text(a)|[none;0..0]|A(num(1..1))|B(num(1..1))|<num(1..7)>",
            "{a:1,b:2,c:3,d:4,e:5,f:6,g:7}", "1", "'a'", "[]", "A(1)", "B(1)");
        infer("7 names and maps beside 5 other kinds", 1, "num(1..1)|text(a)|[none;0..0]|A(num(1..1))|B(num(1..1))|<num(1..7)>",
            "{a:1,b:2,c:3,d:4,e:5,f:6,g:7}", "<>", "1", "'a'", "[]", "A(1)", "B(1)");
    }

    private static void deepSamples() {
        String[][] rows = {{"[", "]", "[", ";1..1]"}, {"{a:", "}", "{a:", "}"}, {"A(", ")", "A(", ")"}, {"<'x':", ">", "<", ">"}};
        for (String[] r : rows) {
            infer("num( as the 12th bracket", 1, r[2].repeat(11) + "num(5..5)" + r[3].repeat(11), r[0].repeat(11) + "5" + r[1].repeat(11));
            infer("num( as the 13th bracket", 1, "", r[0].repeat(12) + "5" + r[1].repeat(12));
            infer("text( as the 13th bracket", 1, "", r[0].repeat(12) + "'a'" + r[1].repeat(12));
            infer("text alone inside 12 brackets", 1, r[2].repeat(12) + "text" + r[3].repeat(12), r[0].repeat(12) + "''" + r[1].repeat(12));
            infer("{} as the 12th bracket", 1, r[2].repeat(11) + "{}" + r[3].repeat(11), r[0].repeat(11) + "{}" + r[1].repeat(11));
        }
    }

    private static void inferCalls() {
        ShapeLang x = new ShapeLang();
        Check.put(x, 0, "0");
        Check.put(x, 7, "7");
        C.is("P21 all slots", x.infer(255, 4), 0);
        C.is("P21 empty ones are left out", Check.schema(x, 0), "V=num(0..7);");
        C.is("P21 the last slot", x.infer(128, 1), 1);
        C.is("P21 its value", Check.schema(x, 1), "V=num(7..7);");
        C.is("P21 the first slot", x.infer(1, 1), 2);
        C.is("P21 its value", Check.schema(x, 2), "V=num(0..0);");
        C.is("P21 no slot", x.infer(0, 1), 3);
        C.is("P21 no samples", Check.schema(x, 3), "V=none;");
        C.is("P21 empty slots alone", x.infer(126, 1), 4);
        C.is("P21 no samples in them", Check.schema(x, 4), "V=none;");
        for (int v = 5; v < 12; v++) {
            C.is("P21 up to 12", x.infer(129, 1), v);
        }
        C.noState("P21 the 13th", () -> x.infer(129, 1));
        C.is("P12 12 versions", x.versions(), 12);
        C.is("P17 the last one", x.isOf(11, 0, 7) ? 1 : 0, 1);
    }
}
