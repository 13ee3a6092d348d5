/** Promises 1 to 5: a new object, feed, fault, length, word. */
public final class TapeTest {
    public static void main(String[] args) {
        Check c = new Check();
        ShapeLang x = new ShapeLang();
        // promise 1
        c.is("P1 versions", x.versions(), 0);
        c.is("P1 length", x.length(), 0);
        c.is("P1 word", x.word(0), 0);
        c.is("P1 fault", x.fault(), ShapeLang.NONE);
        for (int s = 0; s < 8; s++) {
            int slot = s;
            c.noState("P1 slot " + s + " is empty", () -> x.show(slot));
        }
        c.noSuch("P1 no documents", () -> x.versionOf(0));
        c.noSuch("P1 no results", () -> x.result(0));
        c.noSuch("P1 no versions", () -> x.parent(0));
        c.is("P1 the tape is empty", x.feed('7', 1), 1);
        c.is("P1 put", x.put(0), 1);
        // promise 2
        c.noArgument("P2 n 0", () -> x.feed(0, 0));
        c.noArgument("P2 n 9", () -> x.feed(0, 9));
        c.noArgument("P2 n below 0", () -> x.feed(0, -1));
        c.is("P2 lowest first", x.feed(0x3a3a31315d325b5bL & 0, 1), 1);
        c.noState("P2 a byte 0 is no value", () -> x.put(1));
        c.is("P2 two bytes", x.feed(0x3231L, 2), 2);
        c.is("P2 behind it", x.feed(0x7777777777777733L, 1), 3);
        c.is("P2 put", x.put(1), 1);
        c.is("P2 the value", Check.show(x, 1), "123");
        for (int i = 1; i <= 75; i++) {
            c.is("P2 fill", x.feed(0x2020202020202020L, 8), 8 * i);
        }
        c.noState("P2 601 bytes", () -> x.feed(0, 1));
        c.noArgument("P2 n before the room", () -> x.feed(0, 9));
        c.noSuch("P2 the tape stays when there is no slot", () -> x.put(-1));
        c.noState("P2 still full", () -> x.feed(0, 8));
        c.noState("P2 taken over", () -> x.put(0));
        c.is("P2 used up", x.feed(0, 1), 1);
        c.noState("P2 take", () -> x.put(0));
        Check.feed(x, " ".repeat(595));
        c.noState("P2 603 bytes", () -> x.feed(0, 8));
        c.is("P2 600 bytes", x.feed(0, 5), 600);
        c.noState("P2 take again", () -> x.put(0));
        for (int n = 1; n <= 8; n++) {
            int bytes = n;
            for (int free = 0; free < n; free++) {
                ShapeLang y = new ShapeLang();
                Check.feed(y, " ".repeat(600 - free));
                int room = free;
                c.noState("P2 " + n + " bytes, room for " + free, () -> y.feed(0, bytes));
                c.is("P2 the tape stays", Seen.tape(y), room == 0 ? 600 : 600 - room);
            }
            ShapeLang y = new ShapeLang();
            Check.feed(y, " ".repeat(600 - n));
            c.is("P2 just the room for " + n, y.feed(0, n), 600);
        }
        // promise 3
        c.is("P3 fault", x.fault(), 0);
        Check.put(x, 0, "[1,2]");
        c.is("P3 none", x.fault(), ShapeLang.NONE);
        Check.feed(x, "[1,2");
        c.noState("P3 early end", () -> x.put(0));
        c.is("P3 its length", x.fault(), 4);
        c.noSuch("P3 not taken over", () -> x.put(8));
        c.is("P3 stays", x.fault(), 4);
        // promise 4 and 5
        Check.put(x, 2, "{a:1,b:'xyz'}");
        c.is("P4 show", x.show(2), 13);
        c.is("P4 length", x.length(), 13);
        c.is("P5 word 0", x.word(0), 0x273a622c313a617bL);
        c.is("P5 word 1", x.word(1), 0x7d277a7978L);
        c.is("P5 word 2", x.word(2), 0);
        c.is("P5 word -1", x.word(-1), 0);
        c.is("P5 far", x.word(Integer.MAX_VALUE), 0);
        c.is("P5 farther", x.word(Integer.MIN_VALUE), 0);
        c.is("P5 wraps nowhere", x.word(1 << 29), 0);
        c.noState("P4 show of nothing", () -> x.show(7));
        c.is("P4 the out stays", x.length(), 13);
        bytes(c);
        manyCalls(c);
        c.end("TapeTest");
    }

    /** All bits of the bytes come on the tape, and no others: seen by forms of eight numbers of eight bits. */
    private static void bytes(Check c) {
        ShapeLang x = new ShapeLang();
        Check.begin(x, "R=[num(0..255);8..8];");
        for (int n = 1; n <= 8; n++) {
            x.feed(0xf8e7d6c5b4a39281L, n);
            if (n < 8) {
                x.feed(0, 8 - n);
            }
            x.decode(0, 64, 0);
            StringBuilder due = new StringBuilder("[");
            for (int i = 0; i < 8; i++) {
                due.append(i == 0 ? "" : ",").append(i < n ? (int) (0xf8e7d6c5b4a39281L >>> (8 * i) & 255) : 0);
            }
            c.is("P2 the lowest " + n + " bytes", Check.show(x, 0), due + "]");
        }
        Check.feedBits(x, "1111000010000001".repeat(4));
        x.decode(0, 64, 0);
        x.encode(0, 0);
        c.is("P5 bytes with the highest bit", x.word(0), 0x81f081f081f081f0L);
        c.is("P5 behind them", x.word(1), 0);
        c.is("P5 ahead of them", x.word(-1), 0);
        c.is("P5 far behind", x.word(Integer.MAX_VALUE), 0);
        c.is("P5 far ahead", x.word(Integer.MIN_VALUE), 0);
        c.is("P5 a place that would wrap to 0", x.word(1 << 29), 0);
        c.is("P5 another place that would wrap to 0", x.word(-(1 << 29)), 0);
        c.is("P5 a place that would wrap to the last byte", x.word((1 << 29) + 1), 0);
    }

    /** The 512th call answers like the first one. */
    private static void manyCalls(Check c) {
        ShapeLang x = new ShapeLang();
        // two calls to feed the schema and one to begin it
        Check.begin(x, "R={a?:@R}|num;");
        for (int round = 0; round < 169; round++) {
            x.feed('7', 1);
            c.is("put", x.put(round % 8), 1);
            c.is("witness", x.witness(0, 0, 0, 0), ShapeLang.NONE);
        }
        c.is("the 511th call", x.versions(), 1);
        c.is("the 512th call", x.least(0, 0), 1);
    }
}
