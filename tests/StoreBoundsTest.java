/** The bounds of the sections "The store" and "Merging": 12 documents, 12 versions, conflicts, and nothing to be done. */
public final class StoreBoundsTest {
    private static final Check C = new Check();

    public static void main(String[] args) {
        twelveDocuments();
        moving();
        tooMuchToMove();
        readingAndWriting();
        ancestors();
        conflicts();
        leftOut();
        refusedMerges();
        fullMerges();
        mergedVersions();
        C.end("StoreBoundsTest");
    }

    private static void twelveDocuments() {
        ShapeLang x = new ShapeLang();
        Check.begin(x, "R=num;");
        C.noSuch("P33 none yet", () -> x.versionOf(0));
        C.noSuch("P31 none yet", () -> x.read(0, 0, 0));
        for (int d = 0; d < 12; d++) {
            Check.put(x, 7, "" + d);
            C.is("P30 number", x.write(0, 7), d);
            C.is("P33 its version", x.versionOf(d), 0);
        }
        Check.put(x, 7, "99");
        C.noState("P30 the 13th", () -> x.write(0, 7));
        C.noSuch("P33 the 13th", () -> x.versionOf(12));
        C.noSuch("P31 the 13th", () -> x.read(12, 0, 0));
        for (int d = 0; d < 12; d++) {
            C.is("P31 nodes", x.read(d, 0, 0), 1);
            C.is("P31 value", Check.show(x, 0), "" + d);
        }
        C.is("P30 the slot stays", Check.show(x, 7), "99");
    }

    private static void moving() {
        ShapeLang x = new ShapeLang();
        Check.begin(x, "R={a:num};");
        Check.change(x, 0, ShapeLang.RENAME, 0, 0, "a,b");
        Check.begin(x, "R={a:num};");
        C.is("P32 no documents", x.move(1, 12), 0);
        // even ones can be moved, of which the first has the version already; odd ones cannot
        for (int d = 0; d < 12; d++) {
            Check.put(x, 0, d == 0 ? "{b:0}" : "{a:" + d + "}");
            x.write(d % 2 == 1 ? 2 : d == 0 ? 1 : 0, 0);
        }
        C.noArgument("P32 most 0", () -> x.move(1, 0));
        C.noArgument("P32 most 13", () -> x.move(1, 13));
        C.is("P32 one", x.move(1, 1), 1);
        C.is("P33 by rising numbers", x.versionOf(2), 1);
        C.is("P33 not the next one", x.versionOf(4), 0);
        C.is("P32 two", x.move(1, 2), 2);
        C.is("P33 the second of them", x.versionOf(6), 1);
        C.is("P33 not the third one", x.versionOf(8), 0);
        C.is("P32 fewer than at most", x.move(1, 12), 2);
        C.is("P33 one that cannot be converted", x.versionOf(1), 2);
        C.is("P33 the last one", x.versionOf(10), 1);
        C.is("P32 nothing more", x.move(1, 1), 0);
        x.read(10, 1, 0);
        C.is("P31 what was moved", Check.show(x, 0), "{b:10}");
        x.read(0, 1, 0);
        C.is("P31 what was there", Check.show(x, 0), "{b:0}");
        C.is("P32 back, at most 5", x.move(0, 5), 5);
        C.is("P33 the first one, too", x.versionOf(0), 0);
        C.is("P33 the last one not", x.versionOf(10), 1);
        ShapeLang y = new ShapeLang();
        Check.begin(y, "R={a:num};");
        Check.change(y, 0, ShapeLang.RENAME, 0, 0, "a,b");
        Check.put(y, 0, "{a:1}");
        for (int d = 0; d < 12; d++) {
            y.write(0, 0);
        }
        C.is("P32 11", y.move(1, 11), 11);
        C.is("P32 and one", y.move(1, 12), 1);
        C.is("P32 all 12", y.move(0, 12), 12);
        C.is("P33 the last one", y.versionOf(11), 0);
    }

    private static void tooMuchToMove() {
        ShapeLang x = new ShapeLang();
        Check.begin(x, "R=[@R]|@S;S={a?:num};");
        Check.change(x, 0, ShapeLang.ADD, 1, 0, "b:[num]=[1,1,1,1,1,1,1,1]");
        Check.change(x, 1, ShapeLang.DROP, 1, 0, "b=[]");
        Check.put(x, 0, "[{},{},{},{},{},{},{}]");
        x.write(0, 0);
        Check.put(x, 0, "[{},{},{},{},{},{}]");
        x.write(0, 0);
        C.noState("P31 71 nodes", () -> x.read(0, 1, 1));
        C.noState("P31 71 nodes on the way", () -> x.read(0, 2, 1));
        C.is("P31 61 nodes are not too many less one", x.read(0, 0, 1), 8);
        C.noState("P31 61 nodes", () -> x.read(1, 1, 1));
        Check.put(x, 0, "[{},{},{},{},{}]");
        x.write(0, 0);
        C.is("P31 51 nodes", x.read(2, 1, 1), 51);
        C.is("P32 only the one", x.move(1, 12), 1);
        C.is("P33 those that are too big", x.versionOf(0), 0);
        C.is("P33 those that are too big", x.versionOf(1), 0);
        C.is("P33 the one", x.versionOf(2), 1);
        C.is("P32 nor on the way", x.move(2, 12), 1);
        C.is("P33 they stay", x.versionOf(1), 0);
    }

    private static void readingAndWriting() {
        ShapeLang x = new ShapeLang();
        Check.begin(x, "R={a:num};");
        Check.change(x, 0, ShapeLang.ADD, 0, 0, "b:num=(a+1)");
        Check.put(x, 0, "{a:1}");
        C.is("P30 by an old version", x.write(0, 0), 0);
        C.is("P32 moved", x.move(1, 12), 1);
        C.is("P30 an old writer goes on", x.write(0, 0), 1);
        C.is("P33 by the old version", x.versionOf(1), 0);
        C.is("P31 the old one by the new version", x.read(1, 1, 5), 3);
        C.is("P31 its value", Check.show(x, 5), "{a:1,b:2}");
        C.is("P33 reading moves nothing", x.versionOf(1), 0);
        C.is("P31 the new one by the old version", x.read(0, 0, 5), 2);
        C.is("P31 into a filled slot", Check.show(x, 5), "{a:1}");
        C.is("P31 the document stays", x.read(0, 1, 0), 3);
        C.is("P31 its value", Check.show(x, 0), "{a:1,b:2}");
        Check.put(x, 0, "{a:8,b:8}");
        C.noState("P30 not of the root of the old one", () -> x.write(0, 0));
        C.is("P30 of that of the new one", x.write(1, 0), 2);
        x.clear(0);
        x.read(2, 1, 6);
        C.is("P30 a document outlasts its slot", Check.show(x, 6), "{a:8,b:8}");
        C.is("P32 backward", x.move(0, 12), 2);
        x.read(2, 1, 6);
        C.is("P32 what moving lost", Check.show(x, 6), "{a:8,b:9}");
    }

    /** One of them comes from the other, or is it. */
    private static void ancestors() {
        ShapeLang x = new ShapeLang();
        Check.begin(x, "R={a:num};");
        Check.change(x, 0, ShapeLang.RENAME, 0, 0, "a,b");
        Check.change(x, 1, ShapeLang.WRAP, 0, 0, "b,T");
        C.is("P34 with itself", x.conflicts(2, 2), 0);
        C.is("P35 with itself", x.merge(2, 2), 2);
        C.is("P35 the first one into a later one", x.merge(2, 0), 2);
        C.is("P35 the second one into a later one", x.merge(2, 1), 2);
        C.is("P35 nothing began", x.versions(), 3);
        C.is("P34 a later one into the first one", x.conflicts(0, 2), 0);
        C.is("P35 a later one into the first one", x.merge(0, 2), 4);
        C.is("P35 both changes", x.versions(), 5);
        C.is("P35 the first one of them", x.parent(3), 0);
        C.is("P35 the second one of them", x.parent(4), 3);
        C.is("P35 its schema", Check.schema(x, 4), "R={b:T(num)};");
        C.is("P35 once more, as they are the same", x.merge(2, 4), 2);
        C.is("P35 into the second one", x.merge(1, 2), 5);
        C.is("P35 its parent", x.parent(5), 1);
        Check.begin(x, "R={a:num};");
        C.is("P34 none from which both come", x.conflicts(6, 2), ShapeLang.NONE);
        C.is("P34 nor the other way", x.conflicts(2, 6), ShapeLang.NONE);
        C.noState("P35 none from which both come", () -> x.merge(6, 2));
        C.is("P34 alone with itself", x.conflicts(6, 6), 0);
        C.is("P35 alone with itself", x.merge(6, 6), 6);
    }

    /** How many changes of the other one are in conflict, each version being a row of changes of the first one. */
    private static void clash(String rule, String schema, int due, Object[][] mine, Object[][] theirs) {
        ShapeLang x = new ShapeLang();
        Check.begin(x, schema);
        int a = way(x, mine);
        int b = way(x, theirs);
        int before = x.versions();
        C.is("P34 " + rule, x.conflicts(a, b), due);
        if (due > 0) {
            C.noState("P35 " + rule, () -> x.merge(a, b));
            C.is("P35 nothing began, " + rule, x.versions(), before);
        }
    }

    private static int way(ShapeLang x, Object[][] changes) {
        int last = 0;
        for (Object[] c : changes) {
            last = Check.change(x, last, (Integer) c[0], (Integer) c[1], (Integer) c[2], (String) c[3]);
        }
        return last;
    }

    private static Object[][] one(int kind, int n, String text) {
        return new Object[][] {{kind, 0, n, text}};
    }

    private static void conflicts() {
        String schema = "R={b:num(0..9),c:num(0..1),r:{i:num},q:num};S={a:num,b:num};";
        // each kind of change, and the names that it tells
        meet(schema, new Object[][] {{ShapeLang.ADD, 0, "x:num=0,y:num=0", "x y"}, {ShapeLang.DROP, 0, "q=0", "q"}, {ShapeLang.RENAME, 0, "q,z", "q z"},
            {ShapeLang.SPLIT, 3, "b,x,y", "b x y"}, {ShapeLang.JOIN, 2, "b,c,z", "b c z"}, {ShapeLang.MOVE, 0, "q,r", "q r"}, {ShapeLang.LIFT, 0, "r,i", "r i"},
            {ShapeLang.RETYPE, 0, "q:text=''", "q"}, {ShapeLang.WRAP, 0, "q,A", "q"}, {ShapeLang.RELAX, 0, "q", "q"}, {ShapeLang.ADD, 0, "i:num=0", "i"}});
        meet("R={a?:num,t:T(num),q:num};", new Object[][] {{ShapeLang.UNWRAP, 0, "t", "t"}, {ShapeLang.REQUIRE, 0, "a=0", "a"}, {ShapeLang.RENAME, 0, "q,z", "q z"},
            {ShapeLang.RENAME, 0, "a,y", "a y"}, {ShapeLang.RENAME, 0, "t,y", "t y"}, {ShapeLang.DROP, 0, "a=(q)", "a"}, {ShapeLang.WRAP, 0, "t,Q", "t"},
            {ShapeLang.RETYPE, 0, "a:num(0..9)=(q)", "a"}, {ShapeLang.WRAP, 0, "q,A", "q"}});
        // names in sums, in shapes and in values of defaults do not count, nor do Tags and other definitions
        clash("names in a sum", schema, 0, one(ShapeLang.RENAME, 0, "q,z"), one(ShapeLang.ADD, 0, "x:num=(q+1)"));
        clash("names in a shape", schema, 0, one(ShapeLang.RENAME, 0, "q,z"), one(ShapeLang.ADD, 0, "x:{q:num,z?:num}={q:1}"));
        clash("names in a value", schema, 0, one(ShapeLang.RENAME, 0, "q,z"), one(ShapeLang.ADD, 0, "x:num={q:1}"));
        clash("names in the sums of both", schema, 0, one(ShapeLang.ADD, 0, "y:num=(q)"), one(ShapeLang.ADD, 0, "x:num=(q)"));
        clash("other definitions", schema, 0, new Object[][] {{ShapeLang.RENAME, 0, 0, "b,z"}}, new Object[][] {{ShapeLang.RENAME, 1, 0, "b,y"}});
        clash("the same definition, not the first one", schema, 1, new Object[][] {{ShapeLang.RENAME, 1, 0, "b,z"}}, new Object[][] {{ShapeLang.RENAME, 1, 0, "b,y"}});
        clash("the second name of both", schema, 1, one(ShapeLang.RENAME, 0, "b,z"), one(ShapeLang.RENAME, 0, "q,z"));
        clash("the second one of ADD", schema, 1, one(ShapeLang.ADD, 0, "x:num=0,y:num=0"), one(ShapeLang.ADD, 0, "z:num=0,y:num=0"));
        clash("the sixth one of ADD", "R={};", 1, one(ShapeLang.ADD, 0, "a:num=0,b:num=0,c:num=0,d:num=0,e:num=0,f:num=0"), one(ShapeLang.ADD, 0, "f:num=1"));
        clash("several", schema, 2, new Object[][] {{ShapeLang.RENAME, 0, 0, "q,z"}, {ShapeLang.WRAP, 0, 0, "b,A"}},
            new Object[][] {{ShapeLang.WRAP, 0, 0, "q,A"}, {ShapeLang.RELAX, 0, 0, "c"}, {ShapeLang.RELAX, 0, 0, "b"}});
        clash("one in conflict with two counts once", schema, 1, new Object[][] {{ShapeLang.WRAP, 0, 0, "q,A"}, {ShapeLang.WRAP, 0, 0, "q,B"}}, one(ShapeLang.RELAX, 0, "q"));
        clash("of one it is two", schema, 2, one(ShapeLang.RELAX, 0, "q"), new Object[][] {{ShapeLang.WRAP, 0, 0, "q,A"}, {ShapeLang.WRAP, 0, 0, "q,B"}});
        clash("with one that both have, too", schema, 1, one(ShapeLang.RENAME, 0, "q,z"), new Object[][] {{ShapeLang.RENAME, 0, 0, "q,z"}, {ShapeLang.WRAP, 0, 0, "z,A"}});
    }

    /** Each change against each one; the last word of a row tells its names. */
    private static void meet(String schema, Object[][] rows) {
        for (Object[] mine : rows) {
            for (Object[] theirs : rows) {
                boolean meets = false;
                for (String name : ((String) mine[3]).split(" ")) {
                    meets = meets || (" " + theirs[3] + " ").contains(" " + name + " ");
                }
                clash(mine[2] + " and " + theirs[2], schema, mine == theirs || !meets ? 0 : 1,
                    one((Integer) mine[0], (Integer) mine[1], (String) mine[2]), one((Integer) theirs[0], (Integer) theirs[1], (String) theirs[2]));
            }
        }
    }

    /** The same in kind, definition, n and text. */
    private static void leftOut() {
        String schema = "R={b:num(0..9),q:num};S={b:num(0..9),q:num};";
        clash("the same", schema, 0, one(ShapeLang.SPLIT, 3, "b,x,y"), one(ShapeLang.SPLIT, 3, "b,x,y"));
        clash("another n", schema, 1, one(ShapeLang.SPLIT, 3, "b,x,y"), one(ShapeLang.SPLIT, 4, "b,x,y"));
        clash("another text", schema, 1, one(ShapeLang.SPLIT, 3, "b,x,y"), one(ShapeLang.SPLIT, 3, "b,x,z"));
        clash("another text that tells the same", schema, 1, one(ShapeLang.ADD, 0, "x:num=0"), one(ShapeLang.ADD, 0, "x:num(-9999..9999)=0"));
        clash("a longer text", schema, 1, one(ShapeLang.ADD, 0, "x:num=1"), one(ShapeLang.ADD, 0, "x:num=12"));
        clash("another kind", schema, 1, one(ShapeLang.ADD, 0, "x:num=0"), new Object[][] {{ShapeLang.RENAME, 0, 0, "q,x"}});
        clash("another definition", schema, 0, new Object[][] {{ShapeLang.SPLIT, 0, 3, "b,x,y"}}, new Object[][] {{ShapeLang.SPLIT, 1, 3, "b,x,y"}});
        ShapeLang x = new ShapeLang();
        Check.begin(x, schema);
        int a = Check.change(x, 0, ShapeLang.SPLIT, 0, 3, "b,x,y");
        int b = Check.change(x, 0, ShapeLang.SPLIT, 1, 3, "b,x,y");
        C.is("P35 another definition is not left out", x.merge(a, b), 3);
        C.is("P35 its schema", Check.schema(x, 3), "R={q:num,x:num(0..3),y:num(0..2)};S={q:num,x:num(0..3),y:num(0..2)};");
        int c = Check.change(x, 0, ShapeLang.RELAX, 0, 0, "q");
        c = Check.change(x, c, ShapeLang.SPLIT, 1, 3, "b,x,y");
        c = Check.change(x, c, ShapeLang.RELAX, 1, 0, "q");
        C.is("P35 those between are left out", x.merge(3, c), 8);
        C.is("P35 two changes", x.versions(), 9);
        C.is("P35 its schema", Check.schema(x, 8), "R={q?:num,x:num(0..3),y:num(0..2)};S={q?:num,x:num(0..3),y:num(0..2)};");
        C.is("P13 the parent of the first one", x.parent(7), 3);
        C.is("P13 the parent of the second one", x.parent(8), 7);
    }

    /** Some change would be refused, though none is in conflict; then nothing has begun. */
    private static void refusedMerges() {
        ShapeLang x = new ShapeLang();
        Check.begin(x, "R={a:num,b:num,c:num};");
        int mine = Check.change(x, 0, ShapeLang.DROP, 0, 0, "a=0");
        int theirs = Check.change(x, 0, ShapeLang.WRAP, 0, 0, "b,T");
        theirs = Check.change(x, theirs, ShapeLang.ADD, 0, 0, "d:num=(a)");
        int before = x.versions();
        int other = theirs;
        C.is("P34 no conflict", x.conflicts(mine, other), 0);
        C.noState("P35 the second one is refused", () -> x.merge(mine, other));
        C.is("P35 the first one has not begun either", x.versions(), before);
        C.noSuch("P13 there is none", () -> x.parent(before));
        C.is("P10 the next one gets its number", Check.begin(x, "R=text;"), before);
        C.is("P14 and its own schema", Check.schema(x, before), "R=text;");
        C.is("P13 and no parent", x.parent(before), ShapeLang.NONE);
        C.is("P35 the other way it is not refused", x.merge(other, mine) >= 0 ? 1 : 0, 1);
        // seven fields together, though each alone has six
        ShapeLang y = new ShapeLang();
        Check.begin(y, "R={a:num,b:num,c:num,d:num};");
        int two = Check.change(y, 0, ShapeLang.ADD, 0, 0, "e:num=0,f:num=0");
        int one = Check.change(y, 0, ShapeLang.ADD, 0, 0, "g:num=0");
        C.is("P34 no names alike", y.conflicts(two, one), 0);
        C.noState("P35 seven fields", () -> y.merge(two, one));
        C.noState("P35 seven fields the other way", () -> y.merge(one, two));
        C.is("P35 nothing began", y.versions(), 3);
    }

    /** Up to 12 versions, and one more. */
    private static void fullMerges() {
        for (int extra = 0; extra < 2; extra++) {
            ShapeLang x = new ShapeLang();
            Check.begin(x, "R={a:num,b:num};S={a:num};");
            int mine = Check.change(x, 0, ShapeLang.RENAME, 0, 0, "a,z");
            int theirs = 0;
            for (int i = 0; i < 4; i++) {
                theirs = Check.change(x, theirs, ShapeLang.WRAP, 1, 0, "a,T");
            }
            int begun = 2;
            for (int i = 0; i < begun + extra; i++) {
                Check.begin(x, "R=num;");
            }
            int other = theirs;
            C.is("P34 no conflict", x.conflicts(mine, other), 0);
            if (extra == 0) {
                C.is("P35 up to 12", x.merge(mine, other), 11);
                C.is("P12 12", x.versions(), 12);
                C.is("P35 its schema", Check.schema(x, 11), "R={b:num,z:num};S={a:T(T(T(T(num))))};");
                C.is("P35 nothing to be done of 12", x.merge(11, other), 11);
            } else {
                C.noState("P35 more than 12", () -> x.merge(mine, other));
                C.is("P12 as before", x.versions(), 9);
                C.is("P35 nothing to be done", x.merge(other, 0), other);
            }
        }
    }

    /** Versions that come of a merge convert, and can be merged themselves. */
    private static void mergedVersions() {
        ShapeLang x = new ShapeLang();
        Check.begin(x, "R={a:num(0..99),b:num};");
        int mine = Check.change(x, 0, ShapeLang.SPLIT, 0, 10, "a,p,q");
        int theirs = Check.change(x, 0, ShapeLang.ADD, 0, 0, "c?:num=(b+1)");
        theirs = Check.change(x, theirs, ShapeLang.RETYPE, 0, 0, "b:text='x'");
        int merged = x.merge(mine, theirs);
        C.is("P35 the last one", merged, 5);
        C.is("P14 its schema", Check.schema(x, merged), "R={b:text,c?:num,p:num(0..9),q:num(0..9)};");
        Check.put(x, 0, "{a:42,b:7}");
        C.is("P22 over what was merged", x.convert(0, merged, 0, 1), 5);
        C.is("P22 its value", Check.show(x, 1), "{b:'x',c:8,p:4,q:2}");
        C.is("P22 to the one that was merged", x.convert(merged, theirs, 1, 2), 4);
        C.is("P22 its value", Check.show(x, 2), "{a:42,b:'x',c:1}");
        C.is("P23 changes on the way", x.losses(merged, theirs), 3);
        C.is("P34 what was merged is no conflict", x.conflicts(merged, theirs), 0);
        C.is("P35 nor is there anything to be done", x.merge(merged, theirs), merged);
        C.is("P35 into the one that was merged", x.merge(theirs, merged), 6);
        C.is("P35 only what it has not", Check.schema(x, 6), "R={b:text,c?:num,p:num(0..9),q:num(0..9)};");
    }
}
