/** What the tests share: texts for the tape, texts of the out, and a count of what is not as due. */
final class Check {
    interface Call {
        long run();
    }

    private int made;
    private int wrong;

    /** Compares an answer with the one that is due. */
    void is(String what, long got, long due) {
        made++;
        if (got != due) {
            wrong++;
            System.out.println(what + ": answered " + got + ", due is " + due);
        }
    }

    void is(String what, String got, String due) {
        made++;
        if (!got.equals(due)) {
            wrong++;
            System.out.println(what + ": told " + got + ", due is " + due);
        }
    }

    /** A call that must throw just this exception. */
    void isThrown(String what, Class<? extends RuntimeException> due, Call call) {
        made++;
        try {
            long got = call.run();
            wrong++;
            System.out.println(what + ": answered " + got + ", due is " + due.getSimpleName());
        } catch (RuntimeException thrown) {
            if (thrown.getClass() != due) {
                wrong++;
                System.out.println(what + ": threw " + thrown + ", due is " + due.getSimpleName());
            }
        }
    }

    void noSuch(String what, Call call) {
        isThrown(what, IndexOutOfBoundsException.class, call);
    }

    void noArgument(String what, Call call) {
        isThrown(what, IllegalArgumentException.class, call);
    }

    void noState(String what, Call call) {
        isThrown(what, IllegalStateException.class, call);
    }

    static void feed(ShapeLang x, String text) {
        for (int i = 0; i < text.length(); i += 8) {
            long bytes = 0;
            int n = Math.min(8, text.length() - i);
            for (int k = 0; k < n; k++) {
                bytes |= (text.charAt(i + k) & 255L) << (8 * k);
            }
            x.feed(bytes, n);
        }
    }

    /** The out as a text; calls are spared, as an object has 512 of them. */
    static String out(ShapeLang x) {
        StringBuilder text = new StringBuilder();
        int bytes = x.length();
        for (int i = 0; i < bytes; i += 8) {
            long word = x.word(i / 8);
            for (int k = 0; k < 8 && i + k < bytes; k++) {
                text.append((char) (word >>> (8 * k) & 255));
            }
        }
        return text.toString();
    }

    /** The out as bits, as many as there are. */
    static String bits(ShapeLang x, int count) {
        StringBuilder text = new StringBuilder();
        String bytes = out(x);
        for (int i = 0; i < count; i++) {
            text.append((bytes.charAt(i / 8) >> (7 - i % 8) & 1) == 0 ? '0' : '1');
        }
        return text.toString();
    }

    static void feedBits(ShapeLang x, String bits) {
        StringBuilder bytes = new StringBuilder();
        for (int i = 0; i < bits.length(); i += 8) {
            int b = 0;
            for (int k = i; k < i + 8; k++) {
                b = b * 2 + (k < bits.length() && bits.charAt(k) == '1' ? 1 : 0);
            }
            bytes.append((char) b);
        }
        feed(x, bytes.toString());
    }

    static int put(ShapeLang x, int slot, String value) {
        feed(x, value);
        return x.put(slot);
    }

    static int begin(ShapeLang x, String schema) {
        feed(x, schema);
        return x.begin();
    }

    static int change(ShapeLang x, int version, int kind, int definition, int n, String text) {
        feed(x, text);
        return x.change(version, kind, definition, n);
    }

    static String show(ShapeLang x, int slot) {
        x.show(slot);
        return out(x);
    }

    static String schema(ShapeLang x, int version) {
        x.schema(version);
        return out(x);
    }

    /** Ends the test: with exit code 1 if something was not as due. */
    void end(String name) {
        System.out.println(name + ": " + made + " checks, " + wrong + " wrong");
        if (wrong != 0) {
            System.exit(1);
        }
    }
}
