/** Promises 30 to 35: write, read, move, versionOf, conflicts, merge. */
public final class StoreTest {
    private static final Check C = new Check();

    public static void main(String[] args) {
        store();
        limits();
        merges();
        mergeLimits();
        C.end("StoreTest");
    }

    private static void store() {
        ShapeLang x = new ShapeLang();
        Check.begin(x, "R={a:num};");
        Check.change(x, 0, ShapeLang.RENAME, 0, 0, "a,b");
        Check.change(x, 1, ShapeLang.ADD, 0, 0, "c:num=(b*2)");
        Check.begin(x, "R={a:num};");
        Check.put(x, 0, "{a:1}");
        C.is("P30 the first", x.write(0, 0), 0);
        Check.put(x, 0, "{b:2,c:9}");
        C.is("P30 the second", x.write(2, 0), 1);
        Check.put(x, 0, "{a:3}");
        C.is("P30 an old writer goes on", x.write(0, 0), 2);
        C.is("P30 another tree", x.write(3, 0), 3);
        C.is("P33 version", x.versionOf(1), 2);
        C.is("P31 read", x.read(0, 2, 5), 3);
        C.is("P31 its value", Check.show(x, 5), "{b:1,c:2}");
        C.is("P31 the document stays", x.versionOf(0), 0);
        C.is("P31 read as it is", x.read(0, 0, 6), 2);
        C.is("P31 its old value", Check.show(x, 6), "{a:1}");
        C.noState("P31 no way", () -> x.read(3, 0, 6));
        C.is("P31 the slot stays", Check.show(x, 6), "{a:1}");
        C.is("P32 one", x.move(1, 1), 1);
        C.is("P33 moved", x.versionOf(0), 1);
        C.is("P33 not moved", x.versionOf(1), 2);
        C.is("P32 the rest", x.move(1, 12), 2);
        C.is("P33 moved back", x.versionOf(1), 1);
        C.is("P33 moved on", x.versionOf(2), 1);
        C.is("P33 cannot be moved", x.versionOf(3), 3);
        C.is("P32 nothing more", x.move(1, 12), 0);
        x.read(1, 2, 5);
        C.is("P32 what moving lost", Check.show(x, 5), "{b:2,c:4}");
        C.noSuch("P30 version", () -> x.write(4, 0));
        C.noSuch("P30 slot", () -> x.write(0, 8));
        C.noState("P30 empty", () -> x.write(0, 7));
        Check.put(x, 0, "{b:3}");
        C.noState("P30 not of the root", () -> x.write(0, 0));
        C.noSuch("P31 document", () -> x.read(4, 0, 0));
        C.noSuch("P31 document below 0", () -> x.read(-1, 0, 0));
        C.noSuch("P31 version", () -> x.read(0, 4, 0));
        C.noSuch("P31 slot", () -> x.read(0, 0, 8));
        C.noSuch("P32 version", () -> x.move(4, 0));
        C.noArgument("P32 most 0", () -> x.move(0, 0));
        C.noArgument("P32 most 13", () -> x.move(0, 13));
        C.noSuch("P33 document", () -> x.versionOf(4));
        C.noSuch("P33 document below 0", () -> x.versionOf(-1));
    }

    private static void limits() {
        ShapeLang x = new ShapeLang();
        Check.begin(x, "R=num;");
        for (int d = 0; d < 12; d++) {
            Check.put(x, 0, "" + d);
            C.is("P30 number", x.write(0, 0), d);
        }
        C.noState("P30 the 13th", () -> x.write(0, 0));
        for (int d = 0; d < 12; d++) {
            x.read(d, 0, 1);
            C.is("P31 value", Check.show(x, 1), "" + d);
        }
    }

    private static void merges() {
        ShapeLang x = new ShapeLang();
        Check.begin(x, "R={a:num,b:num,s?:@S};S={a:num};");
        int one = Check.change(x, 0, ShapeLang.RENAME, 0, 0, "a,x");
        int two = Check.change(x, one, ShapeLang.WRAP, 1, 0, "a,T");
        int mine = Check.change(x, 0, ShapeLang.ADD, 0, 0, "c:num=(b)");
        mine = Check.change(x, mine, ShapeLang.WRAP, 1, 0, "a,T");
        C.is("P34 names in sums do not count, the same change is left out", x.conflicts(mine, two), 0);
        C.is("P35 merge", x.merge(mine, two), 5);
        C.is("P35 one change came", x.versions(), 6);
        C.is("P35 its parent", x.parent(5), mine);
        C.is("P35 its schema", Check.schema(x, 5), "R={b:num,c:num,s?:@S,x:num};S={a:T(num)};");
        C.is("P35 once more it is nothing", x.merge(5, two), 5);
        C.is("P35 no version came", x.versions(), 6);
        C.is("P35 into itself", x.merge(5, 5), 5);
        C.is("P35 from the root", x.merge(5, 0), 5);
        C.is("P34 with itself", x.conflicts(5, 5), 0);
        int clash = Check.change(x, 0, ShapeLang.RENAME, 0, 0, "b,z");
        C.is("P34 the ADD names b only in its sum", x.conflicts(mine, clash), 0);
        int without = Check.change(x, 0, ShapeLang.DROP, 0, 0, "b=0");
        int adding = x.parent(mine);
        C.is("P34 no conflict", x.conflicts(without, adding), 0);
        C.noState("P35 but the ADD would be refused", () -> x.merge(without, adding));
        C.is("P35 nothing began", x.versions(), without + 1);
        int other = Check.change(x, clash, ShapeLang.RENAME, 0, 0, "z,x");
        C.is("P34 x is named by both", x.conflicts(one, other), 1);
        C.is("P34 the other way", x.conflicts(other, one), 1);
        C.noState("P35 conflict", () -> x.merge(one, other));
        int versions = x.versions();
        int apart = Check.begin(x, "R={a:num,b:num};");
        C.is("P34 none", x.conflicts(0, apart), ShapeLang.NONE);
        C.noState("P35 none", () -> x.merge(0, apart));
        C.is("P35 nothing began", x.versions(), versions + 1);
        C.noSuch("P34 version", () -> x.conflicts(99, 0));
        C.noSuch("P34 other", () -> x.conflicts(0, -1));
        C.noSuch("P35 version", () -> x.merge(99, 0));
        C.noSuch("P35 other", () -> x.merge(0, -1));
    }

    private static void mergeLimits() {
        ShapeLang x = new ShapeLang();
        Check.begin(x, "R={a:num,b:num};S={a:num};");
        int a = Check.change(x, 0, ShapeLang.RENAME, 0, 0, "a,c");
        int b = 0;
        for (int i = 0; i < 6; i++) {
            b = Check.change(x, b, ShapeLang.ADD, 1, 0, (char) ('d' + i) + ":num=0");
            if (i == 4) {
                break;
            }
        }
        C.is("P34 other definitions", x.conflicts(a, b), 0);
        Check.begin(x, "R=num;");
        C.is("P12 versions", x.versions(), 8);
        C.noState("P35 more than 12", () -> x.merge(a, 6));
        C.is("P35 none of them began", x.versions(), 8);
        C.is("P35 four fit", x.merge(a, 5), 11);
        C.is("P35 schema", Check.schema(x, 11), "R={b:num,c:num};S={a:num,d:num,e:num,f:num,g:num};");
        ShapeLang y = new ShapeLang();
        Check.begin(y, "R={a:num(0..99),b:num};");
        int split = Check.change(y, 0, ShapeLang.SPLIT, 0, 10, "a,p,q");
        int again = Check.change(y, 0, ShapeLang.SPLIT, 0, 10, "a,p,q");
        int less = Check.change(y, 0, ShapeLang.SPLIT, 0, 5, "a,p,q");
        C.is("P34 the same change", y.conflicts(split, again), 0);
        C.is("P35 the same change", y.merge(split, again), split);
        C.is("P34 another n", y.conflicts(split, less), 1);
    }
}
