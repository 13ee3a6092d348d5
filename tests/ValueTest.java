/** Promises 6 to 9: put, clear, show, compare, and the faults of values. */
public final class ValueTest {
    private static final Check C = new Check();

    private static void good(String text, int nodes) {
        ShapeLang x = new ShapeLang();
        C.is("P6 nodes of " + text, Check.put(x, 3, text), nodes);
        C.is("P3 no fault of " + text, x.fault(), ShapeLang.NONE);
        C.is("P8 text", Check.show(x, 3), text);
    }

    private static void bad(String text, int fault) {
        ShapeLang x = new ShapeLang();
        Check.feed(x, text);
        C.noState("P6 fault of " + text, () -> x.put(3));
        C.is("P3 fault of " + text, x.fault(), fault);
        C.noState("P6 nothing is put", () -> x.show(3));
    }

    /** -1 if the first value goes first. */
    private static int order(String one, String other) {
        ShapeLang x = new ShapeLang();
        Check.put(x, 0, one);
        Check.put(x, 7, other);
        C.is("P9 the other way " + one + " " + other, x.compare(7, 0), -x.compare(0, 7));
        return x.compare(0, 7);
    }

    public static void main(String[] args) {
        good("0", 1);
        good("-1", 1);
        good("9999", 1);
        good("-9999", 1);
        good("''", 1);
        good("'abcdefgh'", 1);
        good("[]", 1);
        good("[1,'a',[]]", 4);
        good("[1,2,3,4,5,6,7,8]", 9);
        good("{}", 1);
        good("{b:1,z:2,aa:3,abcd:{a:0}}", 6);
        good("T(1)", 2);
        good("Abcd(Z([]))", 3);
        good("<>", 1);
        good("<'':1,'b':2,'aa':<'z':3>>", 5);
        good("[".repeat(12) + "5" + "]".repeat(12), 13);
        good("[[0,0,0,0,0,0,0],[0,0,0,0,0,0,0],[0,0,0,0,0,0,0],[0,0,0,0,0,0,0],[0,0,0,0,0,0,0],[0,0,0,0,0,0,0],[0,0,0,0,0,0,0],[0,0]]", 60);
        bad("[[0,0,0,0,0,0,0],[0,0,0,0,0,0,0],[0,0,0,0,0,0,0],[0,0,0,0,0,0,0],[0,0,0,0,0,0,0],[0,0,0,0,0,0,0],[0,0,0,0,0,0,0],[0,0,0]]", 122);
        bad("", 0);
        bad("-", 1);
        bad("-0", 1);
        bad("00", 1);
        bad("12345", 4);
        bad("1a", 1);
        bad("'abcdefghi'", 9);
        bad("'A'", 1);
        bad("'a", 2);
        bad("[1,]", 3);
        bad("[,1]", 1);
        bad("[1 ,2]", 2);
        bad("[1,2,3,4,5,6,7,8,9]", 20);
        bad("{a:1,a:2}", 10);
        bad("{aa:1,b:2}", 11);
        bad("{abcde:1}", 5);
        bad("{a1}", 2);
        bad("{A:1}", 1);
        bad("{a:1,}", 5);
        bad("{a:1,b:2,c:3,d:4,e:5,f:6,g:7,h:8,i:9}", 38);
        bad("T", 1);
        bad("T()", 2);
        bad("Tabcd(1)", 4);
        bad("T(1,2)", 3);
        bad("<a:1>", 1);
        bad("<'b':1,'a':2>", 14);
        bad("<'a':1,'a':2>", 14);
        bad("<'a':1,'b':1,'c':1,'d':1,'e':1,'f':1,'g':1,'h':1,'i':1>", 56);
        bad("1 ", 1);
        bad(" 1", 0);
        bad("[1]]", 3);
        bad("[".repeat(13) + "]".repeat(13), 12);
        // inside 12 brackets no tag can go on, as its bracket could not
        bad("[".repeat(12) + "T(1)" + "]".repeat(12), 12);
        bad("{a:".repeat(12) + "<>" + "}".repeat(12), 36);

        ShapeLang x = new ShapeLang();
        Check.feed(x, "5");
        C.noSuch("P6 slot -1", () -> x.put(-1));
        C.noSuch("P6 slot 8", () -> x.put(8));
        C.is("P6 the tape stayed", x.put(0), 1);
        Check.feed(x, "[");
        C.noState("P6 fault", () -> x.put(0));
        C.is("P6 the old value stays", Check.show(x, 0), "5");
        C.is("P7 had one", x.clear(0) ? 1 : 0, 1);
        C.is("P7 had none", x.clear(0) ? 1 : 0, 0);
        C.noState("P7 empty now", () -> x.show(0));
        C.noSuch("P7 slot -1", () -> x.clear(-1) ? 1 : 0);
        C.noSuch("P7 slot 8", () -> x.clear(8) ? 1 : 0);
        C.noSuch("P8 slot 8", () -> x.show(8));
        C.noSuch("P8 slot -1", () -> x.show(-1));
        C.noSuch("P9 first slot", () -> x.compare(8, 0));
        C.noSuch("P9 other slot", () -> x.compare(0, -1));
        C.noState("P9 empty", () -> x.compare(0, 1));
        Check.put(x, 0, "1");
        C.noState("P9 other empty", () -> x.compare(0, 1));
        C.is("P9 with itself", x.compare(0, 0), 0);

        String[] rising = {"0", "1", "-1", "2", "-9999", "''", "'z'", "'aa'", "'ab'", "[]", "{}", "<>", "[0]", "[1]", "[-1]", "['']", "[[]]",
            "{a:0}", "{a:''}", "{b:0}", "{aa:0}", "A(0)", "A([])", "B(0)", "Aa(0)", "<'':0>", "<'':1>", "<'a':0>", "<'aa':0>",
            "[[0]]", "[0,0]", "[0,1]", "[1,0]", "[[],0]", "{a:[0]}", "{a:0,b:0}", "{a:0,b:1}", "{a:0,c:0}", "{a:1,b:0}", "{b:0,c:0}", "A([0])", "<'a':[0]>", "<'a':0,'b':0>"};
        for (int i = 0; i < rising.length; i++) {
            for (int j = i; j < rising.length; j++) {
                C.is("P9 " + rising[i] + " and " + rising[j], order(rising[i], rising[j]), i == j ? 0 : -1);
            }
        }
        C.end("ValueTest");
    }
}
