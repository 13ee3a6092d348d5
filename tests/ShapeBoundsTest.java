/** The bounds of the section "Shapes", each at the bound and one beyond it, and the faults of texts of schemas. */
public final class ShapeBoundsTest {
    private static final Check C = new Check();

    /** A schema that is told just as it was fed. */
    private static void good(String rule, String text) {
        good(rule, text, text);
    }

    private static void good(String rule, String text, String told) {
        ShapeLang x = new ShapeLang();
        Check.feed(x, text);
        try {
            C.is(rule + ": " + text, x.begin(), 0);
            C.is(rule + ": its bytes", x.schema(0), told.length());
            C.is(rule + ": its text", Check.out(x), told);
        } catch (IllegalStateException e) {
            C.is(rule + ": fault of " + text, x.fault(), ShapeLang.NONE);
        }
        C.is(rule + ": no fault", x.fault(), ShapeLang.NONE);
    }

    private static void bad(String rule, String text, int fault) {
        ShapeLang x = new ShapeLang();
        Check.begin(x, "T=text;");
        Check.feed(x, text);
        C.noState(rule + ": " + text, x::begin);
        C.is(rule + ": fault of " + text, x.fault(), fault);
        C.is(rule + ": nothing began", x.versions(), 1);
        C.is(rule + ": the tape is used up", Seen.tape(x), 0);
        C.is(rule + ": the first one stays", Check.schema(x, 0), "T=text;");
    }

    /** A fault of what the grammar does not tell: its length and 1. */
    private static void odd(String rule, String text) {
        bad(rule, text, text.length() + 1);
    }

    private static void of(String schema, String value, boolean due) {
        ShapeLang x = new ShapeLang();
        Check.begin(x, schema);
        Check.put(x, 7, value);
        C.is("P17 " + value + " of " + schema, x.isOf(0, 0, 7) ? 1 : 0, due ? 1 : 0);
    }

    private static String row(String one, int count, String between) {
        return one + (between + one).repeat(count - 1);
    }

    public static void main(String[] args) {
        definitions();
        numbersOfParts();
        numbers();
        items();
        lists();
        fields();
        crowds();
        doubles();
        references();
        depths();
        words();
        signs();
        members();
        C.end("ShapeBoundsTest");
    }

    private static void definitions() {
        good("1 definition", "R=num;");
        good("4 definitions", "A=num;B=text;Cc=none;Dddd=[num];");
        odd("5 definitions", "A=num;B=num;C=num;D=num;E=num;");
        odd("6 definitions", "A=num;B=num;C=num;D=num;E=num;F=num;");
        odd("names of definitions alike", "A=num;A=num;");
        odd("names of definitions alike, others between", "A=num;B=num;C=num;A=text;");
        good("names of definitions are told whole", "A=num;Aa=num;Aaa=num;Aaaa=num;");
        bad("a fault behind 5 definitions", "A=num;B=num;C=num;D=num;E=num;f", 30);
        bad("an early end behind 5 definitions", "A=num;B=num;C=num;D=num;E=num", 29);
        bad("an early end behind names alike", "A=num;A=num", 11);
        bad("name of 5", "Abcde=num;", 4);
        bad("name that is small", "a=num;", 0);
        bad("second name that is small", "A=num;b=num;", 6);
        bad("no definition", "", 0);
        bad("; alone", ";", 0);
        bad("a blank behind", "A=num; ", 6);
    }

    private static void numbersOfParts() {
        String five = "num|num|num|num|num";
        String tags = "A(" + five + ")|B(" + five + ")|C(" + five + ")|D(" + five;
        good("24 parts", "R=" + tags + ");");
        odd("25 parts", "R=" + tags + ")|num;");
        odd("25 parts inside", "R=" + tags + "|num);");
        good("24 parts in two definitions", "R=" + tags.substring(0, tags.length() - 4) + ");S=num;");
        odd("25 parts in two definitions", "R=" + tags + ");S=num;");
        good("fields are no parts", "R={a:num,b:num,c:num,d:num,e:num,f:{a:num,b:num,c:num,d:num,e:num,f:{a:num,b:num,c:num,d:num,e:num,f:num}}};");
        good("an @ is a part, and 24 of them", "R=A(" + row("@S", 6, "|") + ")|B(" + row("@S", 6, "|") + ")|C(" + row("@S", 6, "|") + ")|D(@S);S=num;");
        odd("an @ is a part, and 25 of them", "R=A(" + row("@S", 6, "|") + ")|B(" + row("@S", 6, "|") + ")|C(" + row("@S", 6, "|") + ")|D(@S|@S);S=num;");
        bad("a fault behind 25 parts", "R=" + tags + ")|num;x", ("R=" + tags + ")|num;").length());
    }

    private static void numbers() {
        good("INTs from the least to the greatest are told as num", "R=num(-9999..9999);", "R=num;");
        good("INTs below the least one", "R=num(-9998..9999);");
        good("INTs below the greatest one", "R=num(-9999..9998);");
        good("the greatest INTs", "R=num(9999..9999);");
        good("the least INTs", "R=num(-9999..-9999);");
        good("the first INT is the second one", "R=num(0..0);");
        odd("the first INT above the second one", "R=num(1..0);");
        odd("the first INT above the second one below 0", "R=num(-1..-2);");
        odd("the first INT above the second one inside", "R=[A({a:num(5..4)})];");
        bad("5 digits", "R=num(10000..10001);", 10);
        bad("5 digits of the second INT", "R=num(0..10000);", 13);
        bad("leading 0", "R=num(01..2);", 7);
        bad("leading 0 of the second INT", "R=num(0..01);", 10);
        bad("- ahead of 0", "R=num(-0..1);", 7);
        bad("- ahead of 0 in the second INT", "R=num(-1..-0);", 11);
        bad("one .", "R=num(1.2);", 8);
        bad("three .", "R=num(1...2);", 9);
        bad("no second INT", "R=num(1);", 7);
        bad("no INTs", "R=num();", 6);
        bad("an early end in INTs", "R=num(1..", 9);
        bad("a fault behind INTs that fall", "R=num(2..1)x", 11);
        bad("an early end behind INTs that fall", "R=num(2..1)", 11);
    }

    private static void items() {
        good("8 items", "R=text(abcdefgh);");
        odd("9 items", "R=text(abcdefghi);");
        good("8 items with signs", "R=text(abcde.*f.);");
        odd("9 items with signs", "R=text(abcdef.*g.);");
        good("8 items, the last one with ?", "R=text(abcdefgz?);");
        good("2 behind *", "R=text(a*bc);");
        odd("3 behind *", "R=text(a*bcd);");
        good("2 behind ?", "R=text(a?bc);");
        odd("3 behind ?", "R=text(a?bcd);");
        good("2 with signs behind *", "R=text(a*b*c?);");
        odd("3 with signs behind ?", "R=text(a?b?c*d*);");
        good("2 behind, further on", "R=text(abc.?d.);");
        odd("3 behind, further on", "R=text(ab.?d.e);");
        odd("3 behind the first one, though 2 behind the second one", "R=text(a?b*cd);");
        odd("3 behind in a list", "R=[text(.*...)];");
        bad("no items", "R=text();", 7);
        bad("a sign alone", "R=text(?);", 7);
        bad("two signs", "R=text(a*?);", 9);
        bad("a capital", "R=text(aB);", 8);
        bad("the sign below a", "R=text(`);", 7);
        bad("the sign above z", "R=text({);", 7);
        good("the first and the last letter", "R=text(az);");
        bad("a fault behind 9 items", "R=text(abcdefghi;", 16);
        bad("an early end behind 9 items", "R=text(abcdefghi)", 17);
    }

    private static void lists() {
        good("0 to 8 is told without INTs", "R=[num;0..8];", "R=[num];");
        good("0 to 7", "R=[num;0..7];");
        good("1 to 8", "R=[num;1..8];");
        good("0 to 0", "R=[num;0..0];");
        good("8 to 8", "R=[num;8..8];");
        odd("up to 9", "R=[num;0..9];");
        odd("from 9", "R=[num;9..9];");
        odd("from -1", "R=[num;-1..8];");
        odd("below 0", "R=[num;-2..-1];");
        odd("the first INT above the second one", "R=[num;5..4];");
        odd("far above", "R=[num;0..9999];");
        bad("5 digits", "R=[num;0..10000];", 14);
        bad("leading 0", "R=[num;00..1];", 8);
        bad("one INT", "R=[num;1];", 8);
        bad("no INT", "R=[num;];", 7);
        bad("no shape", "R=[];", 3);
        bad("no shape ahead of INTs", "R=[;0..1];", 3);
        bad("two shapes", "R=[num,num];", 6);
        bad("a fault behind INTs beyond 8", "R=[num;0..9}", 11);
        bad("an early end behind INTs beyond 8", "R=[num;0..9]", 12);
    }

    private static void fields() {
        good("no fields", "R={};");
        good("6 fields", "R={a:num,b:num,c:num,d?:num,e:num,f:num};");
        odd("7 fields", "R={a:num,b:num,c:num,d?:num,e:num,f:num,g:num};");
        odd("7 fields inside", "R=[{a:num,b:num,c:num,d?:num,e:num,f:num,g?:num}];");
        odd("names alike", "R={a:num,a:text};");
        odd("names alike, one with ?", "R={a:num,b:num,a?:text};");
        good("names alike in two { }", "R={a:num,b:{a:text}}|{a:text};");
        good("fields are told by rising names", "R={aa:num,z:text,b?:none};", "R={b?:none,z:text,aa:num};");
        good("name of 4", "R={abcd:num};");
        bad("name of 5", "R={abcde:num};", 7);
        bad("a capital", "R={A:num};", 3);
        bad("? twice", "R={a??:num};", 5);
        bad("? behind :", "R={a:?num};", 5);
        bad("no :", "R={a num};", 4);
        bad("no shape", "R={a:};", 5);
        bad("comma at the end", "R={a:num,};", 9);
        bad("a fault behind 7 fields", "R={a:num,b:num,c:num,d:num,e:num,f:num,g:num;", 44);
        bad("an early end behind names alike", "R={a:num,a:num}", 15);
    }

    /** To how many parts a shape leads, and how many of a kind they are. */
    private static void crowds() {
        good("6 parts", "R=num|num|num|num|num|num;");
        odd("7 parts", "R=num|num|num|num|num|num|num;");
        odd("7 parts inside", "R=[num|num|num|num|num|num|num];");
        odd("7 parts in a field", "R={a:num|num|num|num|num|num|num};");
        odd("7 parts in a map", "R=<num|num|num|num|num|num|num>;");
        odd("7 parts in a tag", "R=A(num|num|num|num|num|num|num);");
        odd("8 parts", "R=num|num|num|num|num|num|num|num;");
        good("an @ that stands for 5", "R=num|@S;S=num|num|num|num|num;");
        odd("an @ that stands for 6 beside another part", "R=num|@S;S=num|num|num|num|num|num;");
        good("an @ alone that stands for 6", "R=@S;S=num|num|num|num|num|num;");
        good("two @ that stand for 6", "R=@S|@S;S=num|num|num;");
        odd("two @ that stand for 8", "R=@S|@S;S=num|num|num|num;");
        good("an @ over an @", "R=@S|num;S=@T|num;T=@U|num;U=num|num|num;");
        odd("an @ over an @ to 7", "R=@S|num;S=@T|num;T=@U|num;U=num|num|num|num;");
        odd("an @ in a field that leads to 7", "R={a:@S|num};S=num|num|num|num|num|num;");
        good("none is a part", "R=none|none|none|none|none|none;");
        odd("none is a part, too", "R=none|none|none|none|none|none|none;");
        String[] kinds = {"[num]", "{a:num}", "<num>", "A(num)"};
        for (String kind : kinds) {
            good("two of a kind", "R=" + row(kind, 2, "|") + ";");
            odd("three of a kind", "R=" + row(kind, 3, "|") + ";");
            odd("three of a kind inside", "R={z:" + row(kind, 3, "|") + "};");
            good("two of a kind over @", "R=" + kind + "|@S;S=" + kind + ";");
            odd("three of a kind over @", "R=" + kind + "|@S;S=" + row(kind, 2, "|") + ";");
            for (String[] around : new String[][] {{"[", "]"}, {"A(", ")"}, {"<", ">"}, {"A([", "])"}, {"<A(", ")>"}, {"{z:", "}"}}) {
                odd("three of a kind in another one", "R=" + around[0] + row(kind, 3, "|") + around[1] + ";");
                odd("three of a kind over @ in another one", "R=" + around[0] + "@S|" + kind + around[1] + ";S=" + row(kind, 2, "|") + ";");
                odd("7 parts over @ in another one", "R=" + around[0] + "@S|num" + around[1] + ";S=num|num|num|num|num|num;");
            }
            odd("three of a kind over @ three times", "R=@S|@S|@S;S=" + kind + ";");
            odd("three of a kind with others between", "R=" + kind + "|num|" + kind + "|text|" + kind + ";");
        }
        good("three Tags unlike", "R=A(num)|B(num)|C(num)|A(text)|B(text)|C(text);");
        good("two of each kind", "R=[num]|[text]|{}|{a:num}|<num>|<text>;");
        good("many of num and text", "R=num|num|num|text|text|text;");
    }

    /** How many shapes lead to two of a kind, and that they do not stand in themselves. */
    private static void doubles() {
        String[] kinds = {"[num]", "{a:num}", "<num>", "A(num)"};
        for (String kind : kinds) {
            String two = kind + "|" + kind;
            good("2 shapes with two of a kind", "R={x:" + two + ",y:" + two + "};");
            odd("3 shapes with two of a kind", "R={x:" + two + ",y:" + two + ",z:" + two + "};");
            odd("2 fields and the root with two of a kind", "R={x:" + two + ",y:" + two + "}|{};");
            good("counted by places: an @ and its definition", "R={x:@S};S=" + two + ";");
            odd("counted by places: two @ and their definition", "R={x:@S,y:@S};S=" + two + ";");
            good("one shape inside another one", "R={x:" + two + "}|{};");
            odd("three shapes inside one another", "R=[{x:" + two + "}|{}]|[num];");
            good("an @ to one, and its like", "R={x:@S|" + kind + "};S=" + kind + ";");
            String again = kind.replace("num", "@R|num");
            odd("stands in itself", "R=" + again + "|" + kind + ";");
            odd("stands in itself by the second part", "R=" + kind + "|" + again + ";");
            odd("stands in itself over others", "R=" + kind.replace("num", "<{q:@R}>") + "|" + kind + ";");
            odd("stands in itself over a definition", "R=" + kind.replace("num", "@S") + "|" + kind + ";S={z:@R};");
            odd("stands in itself over two definitions", "R={x:@S};S=" + kind.replace("num", "B(@T)") + "|" + kind + ";T={y:@S};");
            good("one of a kind can stand in itself", "R=" + again + ";");
            good("one of a kind can stand in another one", "R={x:" + two + ",y:@R}|num;");
        }
        good("two of two kinds count once", "R={x:[num]|[num]|<num>|<num>,y:[num]|[num]};");
        good("one shape of two of a kind in another one", "R=[[num]|[text]]|[num];");
        odd("a shape in a list of 0 to 0 counts", "R=[[num]|[num];0..0]|[[num]|[num];0..0];");
    }

    private static void references() {
        good("an @ of a later definition", "R=@S;S=num;");
        good("an @ of an earlier definition", "R=num;S=[@R];");
        good("an @ of itself inside", "R=[@R];");
        odd("an @ of no definition", "R=@S;");
        odd("an @ of no definition inside", "R=num;S=[A({a:@T})];");
        odd("an @ of a part of a name", "R=num;Ss=[@S];");
        odd("itself by @ alone", "R=@R;");
        odd("itself as a part", "R=num|@R;");
        odd("itself over another one", "R=@S|num;S=text|@R;");
        odd("itself over two others", "R=num|@S;S=@T;T=@R|num;");
        odd("itself over three others", "R=@S;S=@T;T=@U;U=num|@R;");
        odd("others that lead to one another", "R=num;S=@T;T=@S;");
        good("over three others to a list of itself", "R=@S;S=@T;T=@U;U=num|[@R];");
        good("twice, but not to itself", "R=@T|@S;S=@T;T=num;");
        bad("no name", "R=@;", 3);
        bad("a small name", "R=@r;", 3);
        bad("a name of 5", "R=@Abcde;", 7);
        bad("an early end behind an @ of no definition", "R=@S", 4);
    }

    private static void depths() {
        String[] open = {"[", "{a:", "A(", "<"};
        String[] close = {"]", "}", ")", ">"};
        for (int i = 0; i < open.length; i++) {
            String ahead = "R=" + open[i].repeat(12);
            for (String inner : new String[] {"num", "text", "none", "@R"}) {
                good("12 brackets", ahead + inner + close[i].repeat(12) + ";");
            }
            String[] deeper = {"[num]", "{}", "A(num)", "<num>", "[", "Abcd"};
            for (String inner : deeper) {
                bad("13 brackets", ahead + inner + close[i].repeat(12) + ";", ahead.length());
            }
            bad("num( as the 13th", ahead + "num(0..1)" + close[i].repeat(12) + ";", ahead.length() + 3);
            bad("text( as the 13th", ahead + "text(a)" + close[i].repeat(12) + ";", ahead.length() + 4);
            good("num( as the 12th", "R=" + open[i].repeat(11) + "num(0..1)" + close[i].repeat(11) + ";");
            good("text( as the 12th", "R=" + open[i].repeat(11) + "text(a*)" + close[i].repeat(11) + ";");
            good("{} as the 12th", "R=" + open[i].repeat(11) + "{}" + close[i].repeat(11) + ";");
        }
        good("INTs are no brackets", "R=" + "[".repeat(12) + "num" + ";0..1]".repeat(12) + ";");
        good("deep ones side by side", "R=" + "[".repeat(11) + "num" + "]".repeat(11) + "|" + "<".repeat(11) + "num" + ">".repeat(11) + ";");
        bad("an early end inside 12 brackets", "R=" + "[".repeat(12), 14);
    }

    private static void words() {
        bad("an early end of a part", "R=n", 3);
        bad("an early end of num", "R=nu", 4);
        bad("an early end of none", "R=non", 5);
        bad("neither num nor none", "R=na;", 3);
        bad("not num", "R=nun;", 4);
        bad("not none", "R=noon;", 4);
        bad("not none further on", "R=nona;", 5);
        bad("num with more", "R=nums;", 5);
        bad("none with more", "R=none(0..1);", 6);
        bad("not text", "R=test;", 4);
        bad("an early end of text", "R=te", 4);
        bad("text with more", "R=texts;", 6);
        bad("another word", "R=abc;", 2);
        bad("no =", "R num;", 1);
        bad("no ;", "R=num", 5);
        bad("no shape", "R=;", 2);
        bad("| alone", "R=|num;", 2);
        bad("| at the end", "R=num|;", 6);
        bad("| twice", "R=num||num;", 6);
        bad("a blank", "R= num;", 2);
        bad("a tag alone", "R=A;", 3);
        bad("a tag of nothing", "R=A();", 4);
        bad("a tag of 5", "R=Abcde(num);", 6);
        bad("a map of nothing", "R=<>;", 3);
        bad("a map with INTs", "R=<num;0..1>;", 6);
        bad("a bracket that is not shut", "R=<num;", 6);
        bad("a bracket too many", "R=num];", 5);
        bad("a byte 255", "R=\u00ff;", 2);
    }

    /** Signatures, and what is told otherwise than it was fed. */
    private static void signs() {
        String[] schemas = {"R=num;", "R=num(-9999..9999);", "R={b:num,a:[text;0..8]};", "Abcd=text(zzzz*)|@Bb;Bb=<none>;"};
        String[] told = {"R=num;", "R=num;", "R={a:[text],b:num};", "Abcd=text(zzzz*)|@Bb;Bb=<none>;"};
        for (int i = 0; i < schemas.length; i++) {
            ShapeLang x = new ShapeLang();
            Check.begin(x, schemas[i]);
            long sum = 7;
            for (char c : told[i].toCharArray()) {
                sum = (sum * 31 + c) % 1000003;
            }
            C.is("P15 signature of " + told[i], x.signature(0), sum);
        }
    }

    private static void members() {
        of("R=num(-3..7);", "-3", true);
        of("R=num(-3..7);", "-4", false);
        of("R=num(-3..7);", "7", true);
        of("R=num(-3..7);", "8", false);
        of("R=num;", "9999", true);
        of("R=num;", "-9999", true);
        of("R=num;", "'a'", false);
        of("R=none;", "''", false);
        of("R=none|num;", "0", true);
        of("R=text;", "''", true);
        of("R=text;", "'abcdefgh'", true);
        of("R=text;", "0", false);
        of("R=text(ab);", "'ab'", true);
        of("R=text(ab);", "'a'", false);
        of("R=text(ab);", "'abb'", false);
        of("R=text(ab);", "'ba'", false);
        of("R=text(.);", "'z'", true);
        of("R=text(.);", "''", false);
        of("R=text(.);", "'aa'", false);
        of("R=text(a*);", "''", true);
        of("R=text(a*);", "'aaaaaaaa'", true);
        of("R=text(a*);", "'aaaaaaab'", false);
        of("R=text(a?);", "''", true);
        of("R=text(a?);", "'a'", true);
        of("R=text(a?);", "'aa'", false);
        of("R=text(.*ab);", "'abab'", true);
        of("R=text(.*ab);", "'aba'", false);
        of("R=text(a.?b);", "'ab'", true);
        of("R=text(a.?b);", "'acb'", true);
        of("R=text(a.?b);", "'accb'", false);
        of("R=text(abcdefgh);", "'abcdefgh'", true);
        of("R=text(abcdefgh);", "'abcdefgz'", false);
        of("R=[num];", "[]", true);
        of("R=[num];", "[1,2,3,4,5,6,7,8]", true);
        of("R=[num;2..3];", "[1]", false);
        of("R=[num;2..3];", "[1,2]", true);
        of("R=[num;2..3];", "[1,2,3]", true);
        of("R=[num;2..3];", "[1,2,3,4]", false);
        of("R=[num;0..0];", "[]", true);
        of("R=[num;0..0];", "[1]", false);
        of("R=[num];", "[1,2,'']", false);
        of("R=[none];", "[]", true);
        of("R=[num]|[text];", "[1,'']", false);
        of("R=[num|text];", "[1,'']", true);
        of("R=[num];", "<>", false);
        of("R={};", "{}", true);
        of("R={};", "{a:1}", false);
        of("R={a:num,b?:num};", "{a:1}", true);
        of("R={a:num,b?:num};", "{a:1,b:2}", true);
        of("R={a:num,b?:num};", "{b:2}", false);
        of("R={a:num,b?:num};", "{a:1,c:2}", false);
        of("R={a:num,b?:num};", "{a:1,b:''}", false);
        of("R={b?:num,a:num};", "{a:1,b:2}", true);
        of("R={a?:none};", "{}", true);
        of("R={a:none};", "{}", false);
        of("R={};", "[]", false);
        of("R=A(num);", "A(1)", true);
        of("R=A(num);", "A('')", false);
        of("R=A(num);", "Aa(1)", false);
        of("R=A(num);", "1", false);
        of("R=<num>;", "<>", true);
        of("R=<num>;", "<'':1,'zzzzzzzz':2>", true);
        of("R=<num>;", "<'':1,'a':''>", false);
        of("R=<num>;", "{a:1}", false);
        of("R=@S;S=@T;T=@U;U=num(5..5);", "5", true);
        of("R=@S;S=@T;T=@U;U=num(5..5);", "6", false);
        of("R=[@R;0..1];", "[".repeat(12) + "]".repeat(12), true);
        of("R=[[@R];1..1]|num;", "[".repeat(11) + "[1]" + "]".repeat(11), true);
        of("R=[[@R];1..1]|num;", "[".repeat(11) + "1" + "]".repeat(11), false);
    }
}
