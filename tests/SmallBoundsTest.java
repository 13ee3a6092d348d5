/** The bounds of the section "Small values": 1 to 3 nodes, the last place, at most 20 times, and no smaller one. */
public final class SmallBoundsTest {
    private static final Check C = new Check();

    /** All small values with so many nodes in their order, and that there is no more. */
    private static void all(String rule, String schema, int nodes, String... due) {
        ShapeLang x = new ShapeLang();
        Check.begin(x, schema);
        C.is("P36 " + rule + ": " + schema + " " + nodes, x.small(0, 0, nodes), due.length);
        for (int i = 0; i < due.length; i++) {
            C.is("P37 bytes, " + rule, x.putSmall(0, 0, nodes, i, 7), due[i].length());
            C.is("P37 " + rule + " " + i, Check.show(x, 7), due[i]);
            Check.put(x, 6, due[i]);
            C.is("P9 the same value, " + rule, x.compare(6, 7), 0);
            if (i > 0) {
                Check.put(x, 5, due[i - 1]);
                C.is("P37 by the order of values, " + rule, x.compare(5, 7), -1);
            }
        }
        Check.put(x, 7, "'old'");
        C.noSuch("P37 behind the last one, " + rule, () -> x.putSmall(0, 0, nodes, due.length, 7));
        C.is("P37 the slot stays", Check.show(x, 7), "'old'");
    }

    private static void count(String rule, String schema, int one, int two, int three) {
        ShapeLang x = new ShapeLang();
        Check.begin(x, schema);
        Check.begin(x, "N=none;");
        C.is("P36 1 node, " + rule, x.small(0, 0, 1), one);
        C.is("P36 2 nodes, " + rule, x.small(0, 0, 2), two);
        C.is("P36 3 nodes, " + rule, x.small(0, 0, 3), three);
        C.is("P38 1 node, " + rule, x.refuted(0, 0, 1, 0, 1), one);
        C.is("P38 2 nodes, " + rule, x.refuted(0, 0, 1, 0, 2), one + two);
        C.is("P38 3 nodes, " + rule, x.refuted(0, 0, 1, 0, 3), one + two + three);
        C.is("P38 none of itself, " + rule, x.refuted(0, 0, 0, 0, 3), 0);
        C.is("P38 none of none, " + rule, x.refuted(1, 0, 0, 0, 3), 0);
    }

    private static void refuted(String one, String other, int first, int second, int third) {
        ShapeLang x = new ShapeLang();
        Check.begin(x, one);
        Check.begin(x, other);
        C.is("P38 1 node of " + one + " and not of " + other, x.refuted(0, 0, 1, 0, 1), first);
        C.is("P38 2 nodes of " + one + " and not of " + other, x.refuted(0, 0, 1, 0, 2), second);
        C.is("P38 3 nodes of " + one + " and not of " + other, x.refuted(0, 0, 1, 0, 3), third);
    }

    private static void shrink(String rule, String one, String other, String value, int times, String due) {
        ShapeLang x = new ShapeLang();
        Check.begin(x, one);
        Check.begin(x, other);
        Check.put(x, 7, value);
        C.is("P39 times, " + rule + ": " + value, x.shrink(0, 0, 1, 0, 7), times);
        C.is("P39 " + rule + ": " + value, Check.show(x, 7), due);
        Check.put(x, 6, due);
        C.is("P9 the same value", x.compare(6, 7), 0);
        C.is("P39 is of the first one still", x.isOf(0, 0, 7) ? 1 : 0, 1);
        C.is("P39 and not of the second one", x.isOf(1, 0, 7) ? 1 : 0, 0);
    }

    public static void main(String[] args) {
        singles();
        pairs();
        threes();
        refutations();
        times();
        changes();
        firstOnes();
        C.end("SmallBoundsTest");
    }

    private static void singles() {
        all("numbers", "R=num;", 1, "0", "1", "-1");
        all("numbers from 0", "R=num(0..9);", 1, "0", "1");
        all("numbers from 2", "R=num(2..9);", 1);
        all("numbers to -2", "R=num(-9..-2);", 1);
        all("texts", "R=text;", 1, "''", "'a'");
        all("texts of b", "R=text(b*);", 1, "''");
        all("texts of two", "R=text(a.);", 1);
        all("empty ones", "R=[num]|{}|<num>;", 1, "[]", "{}", "<>");
        all("none", "R=none;", 1);
        all("none with 2", "R=none;", 2);
        all("none with 3", "R=none;", 3);
        all("no tag with 1", "R=A(num);", 1);
        all("each value once", "R=num|num(0..0)|num(1..1);", 1, "0", "1", "-1");
        count("all of them", "R=num|text|[num]|{}|<num>;", 8, 9, 18);
    }

    private static void pairs() {
        all("lists", "R=[num(0..1)|text(a)];", 2, "[0]", "[1]", "['a']");
        all("lists of two", "R=[num;2..2];", 2);
        all("records", "R={b?:num(0..0),aa?:num(0..0),a?:num(1..1)};", 2, "{a:1}", "{b:0}", "{aa:0}");
        all("records of two", "R={a:num,b:num};", 2);
        all("tags", "R=B(num(0..0))|Aa(num(0..0))|A(num(1..1));", 2, "A(1)", "B(0)", "Aa(0)");
        all("maps", "R=<num(0..1)>;", 2, "<'a':0>", "<'a':1>", "<'b':0>", "<'b':1>");
        all("kinds in their order", "R=<num(0..0)>|A(num(0..0))|{a:num(0..0)}|[num(0..0)];", 2, "[0]", "{a:0}", "A(0)", "<'a':0>", "<'b':0>");
        count("lists", "R=[num];", 1, 3, 9);
        count("maps", "R=<num>;", 1, 6, 9);
        count("tags", "R=A(num)|B(text);", 0, 5, 0);
        count("records", "R={a?:num,b?:num};", 1, 6, 9);
        count("records that must have both", "R={a:num,b:num};", 0, 0, 9);
        count("a record of three fields", "R={a:num,b:num,c:num};", 0, 0, 0);
        count("6 fields", "R={a?:num,b?:num,c?:num,d?:num,e?:num,f?:num};", 1, 18, 135);
        count("all of them in fields", "R={a?:@S,b?:@S};S=num|text|[none]|{}|<none>;", 1, 16, 64);
        count("all of them in lists", "R=[@S];S=num|text|[none]|{}|<none>;", 1, 8, 64);
        count("all of them in maps", "R=<@S>;S=num|text|[none]|{}|<none>;", 1, 16, 64);
        count("over @", "R=@S;S=[@T];T=num(0..0);", 1, 1, 1);
    }

    private static void threes() {
        all("lists of two", "R=[num(0..1);2..8];", 3, "[0,0]", "[0,1]", "[1,0]", "[1,1]");
        all("lists in lists", "R=[[@R]];", 3, "[[[]]]", "[[],[]]");
        all("records of two", "R={b:num(0..1),a:text(a)|num(0..0)};", 3, "{a:0,b:0}", "{a:0,b:1}", "{a:'a',b:0}", "{a:'a',b:1}");
        all("records in records", "R={b?:@R,a?:@R};", 3, "{a:{a:{}}}", "{a:{b:{}}}", "{b:{a:{}}}", "{b:{b:{}}}", "{a:{},b:{}}");
        all("names of inner records", "R={a?:@S};S={b?:num(0..0),c?:num(0..0)};", 3, "{a:{b:0}}", "{a:{c:0}}");
        all("maps of two", "R=<num(0..0)|text(a)>;", 3, "<'a':0,'b':0>", "<'a':0,'b':'a'>", "<'a':'a','b':0>", "<'a':'a','b':'a'>");
        all("maps in tags", "R=A(<num(0..0)>);", 3, "A(<'a':0>)", "A(<'b':0>)");
        all("tags in maps", "R=<A(num(1..1))>;", 3, "<'a':A(1)>", "<'b':A(1)>");
        all("kinds in their order", "R=<@S>|A(@S)|{a:@S}|[@S;1..1];S=[num(0..0);1..1];", 3, "[[0]]", "{a:[0]}", "A([0])", "<'a':[0]>", "<'b':[0]>");
        all("the last one of many", "R=[num];", 3, "[0,0]", "[0,1]", "[0,-1]", "[1,0]", "[1,1]", "[1,-1]", "[-1,0]", "[-1,1]", "[-1,-1]");
        count("much", "R=num|text|[@R]|{}|A(@R)|<@R>;", 8, 32, 8 * 8 * 2 + 4 * 32);
    }

    private static void refutations() {
        refuted("R=num;", "R=num(0..0);", 2, 2, 2);
        refuted("R=num;", "R=num(-1..1);", 0, 0, 0);
        refuted("R=[num];", "R=[num;0..1];", 0, 0, 9);
        refuted("R=[num];", "R=[num;1..8];", 1, 1, 1);
        refuted("R=[num];", "R=text;", 1, 4, 13);
        refuted("R=A(num)|num;", "R=num;", 0, 3, 3);
        refuted("R={a?:num,b?:num};", "R={a?:num};", 0, 3, 12);
    }

    private static void times() {
        shrink("once less than 20", "R=num(101..9999);", "R=none;", "120", 19, "101");
        shrink("20 times", "R=num(101..9999);", "R=none;", "121", 20, "101");
        shrink("not more than 20 times", "R=num(101..9999);", "R=none;", "122", 20, "102");
        shrink("not more than 20 times below 0", "R=num(-9999..-101);", "R=none;", "-122", 20, "-102");
        shrink("no smaller one", "R=num(101..9999);", "R=none;", "101", 0, "101");
        shrink("no smaller one of a 0", "R=num;", "R=none;", "0", 0, "0");
        shrink("no smaller one of an empty text", "R=text;", "R=none;", "''", 0, "''");
        shrink("no smaller one of an empty list", "R=[num];", "R=none;", "[]", 0, "[]");
        shrink("no smaller one that is of the first one", "R=num(5..5)|num(3..3);", "R=none;", "5", 0, "5");
        shrink("no smaller one that is not of the second one", "R=num;", "R=num(-9999..4);", "5", 0, "5");
        String seven = "[9,9,9,9,9,9,9]";
        shrink("20 items of many", "R=[[num(9..9);1..8];8..8];", "R=none;", "[" + (seven + ",").repeat(7) + "[9,9]]", 20,
            "[[9],[9],[9],[9,9,9,9,9]," + (seven + ",").repeat(3) + "[9,9]]");
        ShapeLang x = new ShapeLang();
        Check.begin(x, "R=num(101..9999);");
        Check.begin(x, "N=none;");
        Check.put(x, 0, "150");
        C.is("P39 20 times", x.shrink(0, 0, 1, 0, 0), 20);
        C.is("P39 20 times more", x.shrink(0, 0, 1, 0, 0), 20);
        C.is("P39 the rest", x.shrink(0, 0, 1, 0, 0), 9);
        C.is("P39 none", x.shrink(0, 0, 1, 0, 0), 0);
        C.is("P39 its value", Check.show(x, 0), "101");
    }

    /** What is a smaller one. */
    private static void changes() {
        shrink("to 0", "R=num(0..0)|num(99..99);", "R=none;", "99", 1, "0");
        shrink("to half, rounded", "R=num(49..49)|num(99..99);", "R=none;", "99", 1, "49");
        shrink("to half below 0, rounded toward 0", "R=num(-49..-49)|num(-99..-99);", "R=none;", "-99", 1, "-49");
        shrink("not rounded away from 0", "R=num(-50..-50)|num(-99..-99);", "R=none;", "-99", 0, "-99");
        shrink("by 1", "R=num(98..98)|num(99..99);", "R=none;", "99", 1, "98");
        shrink("by 1 below 0", "R=num(-98..-98)|num(-99..-99);", "R=none;", "-99", 1, "-98");
        shrink("not away from 0", "R=num(99..100);", "R=none;", "99", 0, "99");
        shrink("to nothing else", "R=num(97..97)|num(99..99);", "R=none;", "99", 0, "99");
        shrink("half of 1 is 0", "R=num(0..0)|num(1..1);", "R=none;", "1", 1, "0");
        shrink("-1 to 0", "R=num(-1..0);", "R=none;", "-1", 1, "0");
        shrink("a number inside", "R={a:[num(7..9)]};", "R={a:[num;0..0]};", "{a:[9]}", 2, "{a:[7]}");
        shrink("the first letter", "R=text(bc)|text(abc);", "R=none;", "'abc'", 1, "'bc'");
        shrink("a letter between", "R=text(ac)|text(abc);", "R=none;", "'abc'", 1, "'ac'");
        shrink("the last letter", "R=text(ab)|text(abc);", "R=none;", "'abc'", 1, "'ab'");
        shrink("not two letters at once", "R=text(a)|text(abc);", "R=none;", "'abc'", 0, "'abc'");
        shrink("not another letter", "R=text(aba)|text(abc);", "R=none;", "'abc'", 0, "'abc'");
        shrink("not another key", "R=<num(1..1)>;", "R=<none>;", "<'b':1>", 0, "<'b':1>");
        shrink("a letter of a text inside", "R=[text(bc)|text(abc);1..1];", "R=none;", "['abc']", 1, "['bc']");
        shrink("a letter of one text of two", "R={a:text(abc),b:text(ab)|text(abc)};", "R=none;", "{a:'abc',b:'abc'}", 1, "{a:'abc',b:'ab'}");
        shrink("the first item", "R=[num(2..2)]|[num(1..1)|num(2..2);3..3];", "R=[num;0..1];", "[1,2,2]", 1, "[2,2]");
        shrink("an item inside", "R=A([num(1..1);2..3]);", "R=none;", "A([1,1,1])", 1, "A([1,1])");
        shrink("not two items at once", "R=[num(1..1);1..1]|[num(1..1);3..3];", "R=none;", "[1,1,1]", 0, "[1,1,1]");
        shrink("a field", "R={a?:num(1..1),b:num(1..1)};", "R=none;", "{a:1,b:1}", 1, "{b:1}");
        shrink("a field of an inner record", "R=[{a?:num(1..1),b:num(1..1)};1..1];", "R=none;", "[{a:1,b:1}]", 1, "[{b:1}]");
        shrink("an entry", "R=<num(1..1)>;", "R=<none>;", "<'a':1,'b':1,'c':1>", 2, "<'a':1>");
        shrink("not an inner value in another's place", "R=[num(1..1)|[num(1..1);1..1];1..1];", "R=[num];", "[[1]]", 0, "[[1]]");
        shrink("a value in it", "R=A(B(@R))|num(7..7);", "R=none;", "A(B(7))", 1, "7");
        shrink("a value in it, at whatever depth", "R=num(7..7)|[[[@R]]];", "R=[none];", "[[[7]]]", 1, "7");
        shrink("a value in it that is not the last one", "R=[@R]|num(7..7);", "R=num|[none];", "[[[7]]]", 1, "[7]");
        shrink("what a tag has stays there", "R=A(num(5..7));", "R=none;", "A(7)", 2, "A(5)");
    }

    private static void firstOnes() {
        shrink("the fewest nodes first", "R=[num]|num;", "R=[num;0..0];", "[5]", 2, "0");
        shrink("of the same nodes by the kind", "R=text|num|[num|text];", "R=none;", "['q',5]", 2, "0");
        shrink("0 ahead of half", "R=num;", "R=none;", "8", 1, "0");
        shrink("half ahead of one less", "R=num(3..8);", "R=none;", "8", 2, "3");
        shrink("positive ones first", "R=[num];", "R=[num;0..0];", "[-3,3]", 2, "[0]");
        shrink("the first letters in the order of texts", "R=text;", "R=text(a*);", "'bca'", 2, "'b'");
        shrink("the nearest to 0", "R=[num(2..9)];", "R=[num;0..1];", "[9,4]", 3, "[2,2]");
        shrink("two definitions of one version", "R=num(101..9999)|[num];", "R=[num];", "103", 2, "101");
    }
}
