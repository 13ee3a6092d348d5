/** What can be seen of an object, so that two of them can be held against one another. */
final class Seen {
    /** All but the fault and the tape. Looking changes the out and the first slot, so an object is looked at once. */
    static String of(ShapeLang x) {
        StringBuilder all = new StringBuilder();
        all.append("out ").append(Check.out(x)).append("\nversions ").append(x.versions());
        for (int v = 0; v < x.versions(); v++) {
            all.append("\nversion ").append(x.parent(v)).append(' ').append(x.signature(v)).append(' ').append(Check.schema(x, v));
        }
        all.append("\nresults");
        for (int r = 0; has(x, r, true); r++) {
            all.append(' ').append(Check.out(x));
        }
        all.append("\nslots");
        for (int s = 0; s < 8; s++) {
            all.append(' ').append(slot(x, s));
        }
        for (int d = 0; has(x, d, false); d++) {
            x.read(d, x.versionOf(d), 0);
            all.append("\ndocument ").append(x.versionOf(d)).append(' ').append(Check.show(x, 0));
        }
        return all.toString();
    }

    static String slot(ShapeLang x, int slot) {
        try {
            return Check.show(x, slot);
        } catch (IllegalStateException e) {
            return "empty";
        }
    }

    /** Whether there is a result, whose text is the out then, or a document. */
    private static boolean has(ShapeLang x, int i, boolean result) {
        try {
            return (result ? x.result(i) : x.versionOf(i)) >= 0;
        } catch (IndexOutOfBoundsException e) {
            return false;
        }
    }

    /** How many bytes are on the tape, which gets one more if it is not full. */
    static int tape(ShapeLang x) {
        try {
            return x.feed(' ', 1) - 1;
        } catch (IllegalStateException e) {
            return 600;
        }
    }
}
