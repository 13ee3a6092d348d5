/** The bounds of the section "Values", each at the bound and one beyond it, and the faults of texts of values. */
public final class ValueBoundsTest {
    private static final Check C = new Check();

    private static void good(String rule, String text, int nodes) {
        ShapeLang x = new ShapeLang();
        Check.put(x, 7, "5");
        C.is(rule + ": nodes of " + text, Check.put(x, 7, text), nodes);
        C.is(rule + ": no fault of " + text, x.fault(), ShapeLang.NONE);
        C.is(rule + ": " + text, Seen.slot(x, 7), text);
    }

    private static void bad(String rule, String text, int fault) {
        ShapeLang x = new ShapeLang();
        Check.put(x, 7, "5");
        Check.feed(x, text);
        C.noState(rule + ": " + text, () -> x.put(7));
        C.is(rule + ": fault of " + text, x.fault(), fault);
        C.is(rule + ": the slot stays", Seen.slot(x, 7), "5");
        C.is(rule + ": the tape is used up", Seen.tape(x), 0);
    }

    /** A fault of what the grammar does not tell: its length and 1. */
    private static void odd(String rule, String text) {
        bad(rule, text, text.length() + 1);
    }

    /** So many rows with commas between them. */
    private static String row(String one, int count) {
        return count == 0 ? "" : one + ("," + one).repeat(count - 1);
    }

    public static void main(String[] args) {
        numbers();
        texts();
        rows();
        names();
        nodes();
        depths();
        faults();
        orders();
        C.end("ValueBoundsTest");
    }

    private static void numbers() {
        good("number, the greatest", "9999", 1);
        good("number, the least", "-9999", 1);
        bad("number above 9999", "10000", 4);
        bad("number below -9999", "-10000", 5);
        bad("number above 9999 inside", "[10000]", 5);
        good("number of one digit", "7", 1);
        good("number with 0 inside", "1000", 1);
        good("number 0", "0", 1);
        good("number -9", "-9", 1);
        bad("leading zero", "01", 1);
        bad("zero twice", "00", 1);
        bad("- ahead of 0", "-0", 1);
        bad("- ahead of a leading zero", "-01", 1);
        bad("- alone", "-", 1);
        bad("- twice", "--1", 1);
        bad("+", "+1", 0);
        bad("a sign below the digits", "/", 0);
        bad("a sign above the digits", ":", 0);
        bad("a point", "1.5", 1);
        bad("- inside", "1-1", 1);
    }

    private static void texts() {
        good("text of none", "''", 1);
        good("text of 8", "'abcdefgh'", 1);
        good("text of the last letters", "'zzzzzzzz'", 1);
        bad("text of 9", "'abcdefghi'", 9);
        bad("text of 9 in a list", "['abcdefghi']", 10);
        bad("capital", "'aB'", 2);
        bad("digit", "'a0'", 2);
        bad("blank in a text", "'a b'", 2);
        bad("the sign below a", "'`'", 1);
        bad("the sign above z", "'{'", 1);
        bad("another byte", "'\u00e9'", 1);
        bad("a byte 255", "\u00ff", 0);
        bad("a byte 0", "\u0000", 0);
        bad("text without end", "'abcdefgh", 9);
        bad("text of nothing without end", "'", 1);
        bad("behind a text", "'a'b", 3);
    }

    private static void rows() {
        good("list of none", "[]", 1);
        good("list of 8", "[" + row("0", 8) + "]", 9);
        odd("list of 9", "[" + row("0", 9) + "]");
        odd("list of 9 inside", "[[" + row("0", 9) + "]]");
        bad("comma alone", "[,]", 1);
        bad("comma at the end", "[1,]", 3);
        bad("comma twice", "[1,,2]", 3);
        bad("no comma", "[1 2]", 2);
        bad("another bracket", "[1}", 2);
        bad("a bracket alone", "]", 0);
        good("record of none", "{}", 1);
        good("record of 8", "{a:0,b:0,c:0,d:0,e:0,f:0,g:0,h:0}", 9);
        odd("record of 9", "{a:0,b:0,c:0,d:0,e:0,f:0,g:0,h:0,i:0}");
        odd("names alike", "{a:0,a:1}");
        odd("names alike with another between", "{a:0,b:1,a:2}");
        odd("names falling", "{b:0,a:1}");
        odd("names falling inside", "[{b:0,a:1}]");
        good("names rise by length first", "{z:0,aa:1,zzz:2,aaaa:3}", 5);
        odd("names fall by length", "{aa:0,z:1}");
        bad("no name", "{:1}", 1);
        bad("no value", "{a:}", 3);
        bad("no :", "{a}", 2);
        bad("another sign between", "{a:1;b:2}", 4);
        bad("comma at the end of a record", "{a:1,}", 5);
        good("map of none", "<>", 1);
        good("map of 8", "<'':0,'a':0,'b':0,'c':0,'d':0,'e':0,'f':0,'g':0>", 9);
        odd("map of 9", "<'':0,'a':0,'b':0,'c':0,'d':0,'e':0,'f':0,'g':0,'h':0>");
        odd("keys alike", "<'a':0,'a':1>");
        odd("empty keys alike", "<'':0,'':1>");
        odd("keys falling", "<'b':0,'a':1>");
        odd("keys falling to the empty one", "<'a':0,'':1>");
        good("keys rise by length first", "<'':0,'z':1,'aa':2,'aaaaaaaa':3,'aaaaaaab':4>", 6);
        odd("keys fall by length", "<'aa':0,'z':1>");
        bad("key of 9", "<'abcdefghi':0>", 10);
        bad("key that is a number", "<1:1>", 1);
        bad("key that is a name", "<a:1>", 1);
        bad("key alone", "<'a'>", 4);
        bad("key without value", "<'a':>", 5);
        bad("comma at the end of a map", "<'a':1,>", 7);
    }

    private static void names() {
        good("name of 1", "{a:1}", 2);
        good("name of 4", "{abcd:1}", 2);
        bad("name of 5", "{abcde:1}", 5);
        bad("capital in a name", "{aB:1}", 2);
        bad("capital as a name", "{A:1}", 1);
        bad("digit in a name", "{a1:1}", 2);
        good("tag of 1", "A(1)", 2);
        good("tag of 4", "Zzzz(1)", 2);
        bad("tag of 5", "Abcde(1)", 4);
        bad("two capitals", "AB(1)", 1);
        bad("small letter as a tag", "a(1)", 0);
        bad("the sign below A", "@(1)", 0);
        bad("the sign above Z", "[(1)]", 1);
        bad("digit in a tag", "A1(1)", 1);
        bad("tag alone", "A", 1);
        bad("tag of nothing", "A()", 2);
        bad("tag of two", "A(1,2)", 3);
        bad("tag with another bracket", "A[1]", 1);
        bad("blank ahead", " 1", 0);
        bad("blank behind", "1 ", 1);
        bad("blank behind a comma", "[1, 2]", 3);
        bad("blank behind :", "{a: 1}", 3);
        bad("blank behind a tag", "A (1)", 1);
        bad("blank behind a key", "<'a' :1>", 4);
        bad("line's end", "1\n", 1);
    }

    /** Values with 60 and 61 nodes: 7 lists of 7 are 56 nodes, and 57 with the row around them. */
    private static void nodes() {
        String seven = "[" + row("0", 7) + "]";
        String[] last = {"[0,0]", "{a:0,b:0}", "<'':0,'a':0>", "T(T(0))", "[[[]]]", "['','a']"};
        String[] more = {"[0,0,0]", "{a:0,b:0,c:0}", "<'':0,'a':0,'b':0>", "T(T(T(0)))", "[[[[]]]]", "['','a','']"};
        for (int i = 0; i < last.length; i++) {
            good("60 nodes", "[" + row(seven, 7) + "," + last[i] + "]", 60);
            odd("61 nodes", "[" + row(seven, 7) + "," + more[i] + "]");
        }
        String fields = "{a:" + seven + ",b:" + seven + ",c:" + seven + ",d:" + seven + ",e:" + seven + ",f:" + seven + ",g:" + seven + ",h:";
        good("60 nodes in a record", fields + "[0,0]}", 60);
        odd("61 nodes in a record", fields + "[0,0,0]}");
        good("60 nodes in a tag", "T([" + row(seven, 7) + ",[0]])", 60);
        odd("61 nodes in a tag", "T([" + row(seven, 7) + ",[0,0]])");
        odd("many more nodes", "[" + row("[" + row("0", 8) + "]", 8) + "]");
    }

    private static void depths() {
        String[] open = {"[", "{a:", "T(", "<'':"};
        String[] close = {"]", "}", ")", ">"};
        for (int i = 0; i < open.length; i++) {
            for (String inner : new String[] {"5", "'x'"}) {
                good("12 values around", open[i].repeat(12) + inner + close[i].repeat(12), 13);
                bad("13 values around", open[i].repeat(13) + inner + close[i].repeat(13), 12 * open[i].length());
            }
            good("a bracket inside 11 others", open[i].repeat(11) + "[]" + close[i].repeat(11), 12);
            // the first byte with which no text goes on, whatever stands behind it
            for (String inner : new String[] {"[]", "{}", "<>", "T(1)", "T", "[", "{", "<", "Abc"}) {
                bad("a bracket inside 12 others", open[i].repeat(12) + inner + close[i].repeat(12), 12 * open[i].length());
            }
            bad("end inside 12 brackets", open[i].repeat(12), 12 * open[i].length());
        }
        String mixed = "[{a:T(<'':".repeat(3);
        good("12 mixed ones", mixed + "0" + ">)}]".repeat(3), 13);
        bad("13 mixed ones", mixed + "[]" + ">)}]".repeat(3), mixed.length());
        good("deep ones side by side", "[" + "[".repeat(11) + "]".repeat(11) + "," + "[".repeat(11) + "0" + "]".repeat(11) + "]", 24);
        bad("brackets that were shut do not count", "[[],".repeat(11) + "[1,[", 11 * 4 + 3);
    }

    private static void faults() {
        bad("no text", "", 0);
        bad("how many items there are is not asked for first", "[" + row("0", 9) + ",x]", 19);
        bad("nor at an early end", "[" + row("0", 9), 18);
        bad("nor are names", "{b:1,a:2,!", 9);
        bad("nor at an early end of a record", "{b:1,a:2", 8);
        bad("nor are keys", "<'b':1,'a':2>>", 13);
        bad("nor how many nodes", "[" + row("[" + row("0", 8) + "]", 8), 8 * 18);
        bad("the first of two faults", "[01,02]", 2);
        bad("an early end", "[1,2", 4);
        bad("an early end of a number", "[1,-", 4);
        bad("an early end of a name", "{ab", 3);
        bad("an early end behind :", "{ab:", 4);
        bad("an early end of a tag", "[Ab", 3);
        bad("an early end of a key", "<'ab", 4);
        bad("two values", "[1][2]", 3);
        bad("600 bytes", "[" + "0,".repeat(299) + "x", 599);
        odd("600 bytes of items", "[" + "0,".repeat(298) + "10]");
    }

    /** The first one goes first, and they are the same with themselves. */
    private static void orders() {
        String[][] pairs = {{"9999", "-9999"}, {"-9998", "9999"}, {"0", "1"}, {"1", "-1"}, {"-1", "2"}, {"9999", "''"}, {"''", "'a'"}, {"'z'", "'aa'"},
            {"'zzzzzzz'", "'aaaaaaaa'"}, {"'aaaaaaay'", "'aaaaaaaz'"}, {"'zzzzzzzz'", "[]"}, {"[]", "{}"}, {"{}", "<>"}, {"<>", "[0]"}, {"[9999]", "{a:0}"},
            {"{zzzz:9999}", "A(0)"}, {"Zzzz(9999)", "<'':0>"}, {"<'zzzzzzzz':9999>", "[0,0]"}, {"[[9999]]", "[0,0]"}, {"{b:[9999]}", "{a:0,b:0}"}, {"<'z':[9999]>", "<'':0,'a':0>"},
            {"{z:5}", "{aa:0}"}, {"{a:5}", "{b:0}"}, {"{a:0,c:0}", "{a:1,b:0}"}, {"{a:0,b:5}", "{a:0,c:0}"}, {"<'a':0,'c':0>", "<'a':1,'b':0>"}, {"<'z':5>", "<'aa':0>"},
            {"A(5)", "B(0)"}, {"Z(5)", "Aa(0)"}, {"Azzz(0)", "Baaa(0)"}, {"A(0)", "A(1)"}, {"[0,9]", "[1,0]"}, {"[1,''] ".trim(), "['',1]"}, {"[0,[]]", "[[],0]"}, {"A([0])", "A({a:0})"}};
        for (String[] pair : pairs) {
            ShapeLang x = new ShapeLang();
            Check.put(x, 0, pair[0]);
            Check.put(x, 7, pair[1]);
            Check.put(x, 3, pair[0]);
            C.is("P9 " + pair[0] + " and " + pair[1], x.compare(0, 7), -1);
            C.is("P9 " + pair[1] + " and " + pair[0], x.compare(7, 0), 1);
            C.is("P9 the same slot", x.compare(7, 7), 0);
            C.is("P9 the same value", x.compare(0, 3), 0);
        }
    }
}
