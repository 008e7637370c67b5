/** Promises 1 to 8: what puts terms on the stack and takes them away. */
public final class StackTest {
    private static final int NONE = TermCodec.NONE;

    public static void main(String[] args) {
        newObject();
        clear();
        nodeKinds();
        nodeArguments();
        nodeStates();
        nodeDepth();
        nodeOrderOfExceptions();
        bytes();
        more();
        drop();
        twice();
        split();
        splitOfNone();
        Check.end();
    }

    private static void newObject() {
        TermCodec x = new TermCodec();
        for (int which = 0; which <= 5; which++) {
            Check.due("1: look(" + which + ")", x.look(which), 0);
        }
        Check.due("1: look(6)", x.look(6), NONE);
        Check.due("1: look(7)", x.look(7), NONE);
        Check.due("1: output(0)", x.output(0), NONE);
        Check.due("1: of(0, 0)", x.of(0, 0), NONE);
        x.node(10, 0);
        x.write();
        x.turn();
        Check.due("1: another object's terms", new TermCodec().look(0), 0);
        Check.due("1: another object's input", new TermCodec().look(3), 0);
    }

    private static void clear() {
        TermCodec x = new TermCodec();
        x.clear();
        Check.due("2: clear of nothing", x.look(0), 0);
        x.node(10, 0);
        x.node(7, 5);
        x.node(1, 0);
        x.write();
        x.give(0x0c, 1);
        x.read();
        x.clear();
        Check.due("2: terms", x.look(0), 0);
        Check.due("2: nodes", x.look(1), 0);
        Check.due("2: output stays", x.look(2), 3);
        Check.due("2: input stays", x.look(3), 1);
        Check.due("2: fault stays", x.look(5), 3);
        Check.due("2: place stays", x.look(6), 0);
        Check.due("2: last length", x.look(7), NONE);
        Check.due("2: drop", x.drop(), false);
        Check.due("2: node after clear", x.node(5, 0), 1);
    }

    private static void nodeKinds() {
        TermCodec x = new TermCodec();
        Check.due("3: VARIABLE", x.node(0, 1), 1);
        Check.due("3: LAMBDA", x.node(1, 0), 1);
        Check.due("3: ERROR", x.node(5, 0), 2);
        Check.due("3: APPLY", x.node(2, 0), 1);
        Check.due("3: bytes of APPLY", Check.written(x), "02 01 00 01 05");
        Check.due("3: DELAY", x.node(3, 0), 1);
        Check.due("3: FORCE", x.node(4, 0), 1);
        Check.due("3: nodes", x.look(1), 6);
        Check.due("3: bytes", Check.written(x), "04 03 02 01 00 01 05");
        Check.due("3: BUILTIN", x.node(6, 31), 2);
        Check.due("3: INTEGER", x.node(7, -1), 3);
        Check.due("3: TRUTH", x.node(9, 1), 4);
        Check.due("3: UNIT", x.node(10, 0), 5);
        Check.due("3: EMPTY", x.node(11, 0), 6);
        Check.due("3: APPLY of the two last", x.node(2, 0), 5);
        Check.due("3: LAMBDA of the last alone", x.node(1, 0), 5);
        Check.due("3: all", Check.stackOf(x), "01 02 0a 0b | 09 01 | 07 7f | 06 1f | 04 03 02 01 00 01 05");
    }

    private static void nodeArguments() {
        long[][] good = {{0, 1}, {0, 200}, {6, 0}, {6, 31}, {9, 0}, {9, 1},
            {7, Long.MIN_VALUE}, {7, Long.MAX_VALUE}, {5, 0}, {10, 0}, {11, 0}, {1, 0}, {3, 0}, {4, 0}};
        TermCodec x = new TermCodec();
        x.node(10, 0);
        for (long[] g : good) {
            Check.due("3: node(" + g[0] + ", " + g[1] + ")", Check.thrownBy(() -> x.node((int) g[0], g[1])), "nothing");
        }
        long[][] bad = {{-1, 0}, {12, 0}, {8, 0}, {Integer.MIN_VALUE, 0}, {Integer.MAX_VALUE, 0}, {256, 0},
            {0, 0}, {0, 201}, {0, -1}, {0, (1L << 32) + 1}, {6, -1}, {6, 32}, {6, 1L << 32}, {9, -1}, {9, 2},
            {9, (1L << 32) + 1}, {1, 1}, {2, 1}, {3, -1}, {4, 1}, {5, 1}, {10, 1}, {11, -1}, {10, 1L << 32}};
        int terms = x.look(0);
        int nodes = x.look(1);
        for (long[] b : bad) {
            Check.badArgument("3: node(" + b[0] + ", " + b[1] + ")", () -> x.node((int) b[0], b[1]));
        }
        Check.due("3: terms after bad arguments", x.look(0), terms);
        Check.due("3: nodes after bad arguments", x.look(1), nodes);
    }

    private static void nodeStates() {
        TermCodec x = new TermCodec();
        for (int kind = 1; kind <= 4; kind++) {
            int k = kind;
            Check.badState("3: node(" + k + ", 0) of nothing", () -> x.node(k, 0));
        }
        x.node(10, 0);
        Check.badState("3: APPLY of one", () -> x.node(2, 0));
        Check.due("3: nodes", x.look(1), 1);
        for (int i = 2; i <= 200; i++) {
            Check.due("3: UNIT " + i, x.node(10, 0), i);
        }
        for (int kind = 0; kind <= 11; kind++) {
            int k = kind;
            if (k != 8) {
                Check.badState("3: node(" + k + ") with 200 NODES", () -> x.node(k, k == 0 ? 1 : 0));
            }
        }
        Check.due("3: terms with 200 NODES", x.look(0), 200);
        x.drop();
        Check.due("3: APPLY as the 200th", x.node(2, 0), 198);
        Check.due("3: nodes with APPLY", x.look(1), 200);
        Check.due("3: the 200th written", Check.written(x), "02 0a 0a");
        Check.due("3: a part of the 200th", x.of(2, 0), 10);
    }

    private static void nodeDepth() {
        TermCodec x = new TermCodec();
        x.node(10, 0);
        for (int depth = 2; depth <= 60; depth++) {
            x.node(1 + 2 * (depth % 2), 0);
        }
        Check.due("3: depth 60", x.of(0, 2), 60);
        for (int kind : new int[] {1, 3, 4}) {
            Check.badState("3: depth 61 by " + kind, () -> x.node(kind, 0));
        }
        x.node(11, 0);
        Check.badState("3: depth 61 by the function", () -> x.node(2, 0));
        Check.due("3: terms stay", x.look(0), 2);
        Check.due("3: nodes stay", x.look(1), 61);
        x.clear();
        x.node(11, 0);
        x.node(10, 0);
        for (int depth = 2; depth <= 60; depth++) {
            x.node(4, 0);
        }
        Check.badState("3: depth 61 by the argument", () -> x.node(2, 0));
        x.split();
        Check.due("3: depth 60 by the argument", x.node(2, 0), 1);
        Check.due("3: its depth", x.of(0, 2), 60);
    }

    private static void nodeOrderOfExceptions() {
        TermCodec x = new TermCodec();
        Check.badArgument("3: a bad arg, too few TERMS", () -> x.node(2, 7));
        for (int i = 0; i < 200; i++) {
            x.node(10, 0);
        }
        Check.badArgument("3: a bad kind, 200 NODES", () -> x.node(8, 0));
        Check.badArgument("3: a bad arg, 200 NODES", () -> x.node(0, 0));
        Check.badArgument("4: a bad n, 200 NODES", () -> x.bytes(0, 9));
    }

    private static void bytes() {
        TermCodec x = new TermCodec();
        Check.due("4: none", x.bytes(-1L, 0), 1);
        Check.due("4: none written", Check.written(x), "08 00");
        Check.due("4: eight", x.bytes(0x0123456789abcdefL, 8), 2);
        Check.due("4: eight written", Check.written(x), "08 08 01 23 45 67 89 ab cd ef");
        Check.due("4: three", x.bytes(0x0123456789abcdefL, 3), 3);
        Check.due("4: three written", Check.written(x), "08 03 ab cd ef");
        Check.due("4: nodes", x.look(1), 3);
        for (int n : new int[] {-1, 9, Integer.MIN_VALUE, Integer.MAX_VALUE}) {
            Check.badArgument("4: n = " + n, () -> x.bytes(1, n));
        }
        Check.due("4: nodes stay", x.look(1), 3);
        for (int i = 4; i <= 200; i++) {
            x.bytes(i, 1);
        }
        Check.badState("4: 200 NODES", () -> x.bytes(1, 1));
        Check.due("4: the last stays", Check.written(x), "08 01 c8");
        x.drop();
        Check.due("4: old bytes are gone", x.bytes(0, 1), 200);
        Check.due("4: old bytes are gone, written", Check.written(x), "08 01 00");
        for (int i = 0; i < 8; i++) {
            x.more(0x3132333435363738L, i < 7 ? 8 : 7);
        }
        Check.due("5: 64 in the 200th", x.look(7), 66);
        Check.due("5: the last of the 200th", x.byteAt(0, 63), 0x38);
    }

    private static void more() {
        TermCodec x = new TermCodec();
        Check.due("5: no TERM", x.more(1, 1), false);
        x.bytes(0xa1, 1);
        Check.due("5: two", x.more(0xffb2c3L, 2), true);
        Check.due("5: two written", Check.written(x), "08 03 a1 b2 c3");
        for (int n : new int[] {0, -1, 9, Integer.MIN_VALUE, Integer.MAX_VALUE}) {
            Check.due("5: n = " + n, x.more(1, n), false);
        }
        Check.due("5: bytes stay", x.of(0, 5), 3);
        for (int i = 0; i < 7; i++) {
            Check.due("5: eight", x.more(0x1112131415161718L, 8), true);
        }
        Check.due("5: 59 and 6", x.more(0, 6), false);
        Check.due("5: 59 stay", x.of(0, 5), 59);
        Check.due("5: 59 and 5", x.more(0x2122232425L, 5), true);
        Check.due("5: 64 and 1", x.more(0, 1), false);
        Check.due("5: 64", x.of(0, 5), 64);
        Check.due("5: byte 3", x.byteAt(0, 3), 0x11);
        Check.due("5: byte 58", x.byteAt(0, 58), 0x18);
        Check.due("5: byte 63", x.byteAt(0, 63), 0x25);
        Check.due("5: length", x.look(7), 66);
        Check.due("5: one TERM", x.look(0), 1);
        x.node(3, 0);
        Check.due("5: DELAY of BYTES", x.more(1, 1), false);
        x.clear();
        x.bytes(1, 1);
        x.node(7, 1);
        Check.due("5: the last TERM is no BYTES", x.more(1, 1), false);
        x.drop();
        x.twice();
        Check.due("5: of two BYTES", x.more(2, 1), true);
        Check.due("5: the last alone", Check.stackOf(x), "08 02 01 02 | 08 01 01");
    }

    private static void drop() {
        TermCodec x = new TermCodec();
        Check.due("6: none", x.drop(), false);
        x.node(7, 1);
        x.node(9, 0);
        x.node(9, 1);
        x.node(2, 0);
        Check.due("6: APPLY goes", x.drop(), true);
        Check.due("6: terms", x.look(0), 1);
        Check.due("6: nodes", x.look(1), 1);
        Check.due("6: the one below", Check.written(x), "07 01");
        Check.due("6: it goes", x.drop(), true);
        Check.due("6: none again", x.drop(), false);
        Check.due("6: output stays", x.look(2), 2);
    }

    private static void twice() {
        TermCodec x = new TermCodec();
        Check.due("7: none", x.twice(), false);
        x.node(11, 0);
        x.bytes(0x0102, 2);
        x.node(0, 7);
        x.node(1, 0);
        x.node(2, 0);
        Check.due("7: a TERM", x.twice(), true);
        Check.due("7: terms", x.look(0), 3);
        Check.due("7: nodes", x.look(1), 9);
        Check.due("7: same", x.same(), true);
        Check.due("7: depth", x.of(0, 2), 3);
        Check.due("7: lacks", x.of(0, 3), 6);
        String term = "02 08 02 01 02 01 00 07";
        Check.due("7: all", Check.stackOf(x), term + " | " + term + " | 0b");
        x.bytes(0, 0);
        for (int size = 2; size <= 51; size++) {
            x.node(3, 0);
        }
        for (int i = 0; i < 2; i++) {
            Check.due("7: 51 more", x.twice(), true);
        }
        Check.due("7: 153 and 51 are too many", x.twice(), false);
        Check.due("7: nodes stay", x.look(1), 153);
        Check.due("7: terms stay", x.look(0), 3);
        x.split();
        x.split();
        x.split();
        x.split();
        Check.due("7: 149 and 47", x.twice(), true);
        x.clear();
        x.node(10, 0);
        for (int i = 1; i < 50; i++) {
            x.node(4, 0);
        }
        for (int i = 2; i <= 4; i++) {
            Check.due("7: up to 200", x.twice(), true);
        }
        Check.due("7: 200 nodes", x.look(1), 200);
        Check.due("7: the last two", x.same(), true);
        Check.due("7: the last NODE", x.of(49, 0), 10);
        Check.due("7: no room", x.twice(), false);
    }

    private static void split() {
        TermCodec x = new TermCodec();
        x.node(11, 0);
        x.node(0, 3);
        x.node(1, 0);
        x.bytes(0x77, 1);
        x.node(3, 0);
        x.node(2, 0);
        x.node(4, 0);
        Check.due("8: FORCE", x.split(), 1);
        Check.due("8: terms", x.look(0), 2);
        Check.due("8: nodes", x.look(1), 6);
        Check.due("8: APPLY", x.split(), 2);
        Check.due("8: terms of APPLY", x.look(0), 3);
        Check.due("8: nodes of APPLY", x.look(1), 5);
        Check.due("8: DELAY", x.split(), 1);
        Check.due("8: BYTES", x.split(), NONE);
        Check.due("8: BYTES stay", Check.written(x), "08 01 77");
        x.drop();
        Check.due("8: lacks of the LAMBDA", x.of(0, 3), 2);
        Check.due("8: LAMBDA", x.split(), 1);
        Check.due("8: lacks of its body", x.of(0, 3), 3);
        Check.due("8: all", Check.stackOf(x), "00 03 | 0b");
        x.bytes(0x6162, 2);
        x.node(7, 64);
        x.node(2, 0);
        x.node(1, 0);
        Check.due("8: LAMBDA as the only TERM", x.split(), 1);
        Check.due("8: APPLY as the only TERM", x.split(), 2);
        Check.due("8: all of the only TERM", Check.stackOf(x), "07 c0 00 | 08 02 61 62");
        for (int i = 0; i < 198; i++) {
            x.node(10, 0);
        }
        x.node(11, 0);
        x.node(2, 0);
        Check.due("8: with 200 NODES", x.split(), 2);
        Check.due("8: 199 NODES then", x.look(1), 199);
        Check.due("8: the argument of the 200th", x.of(0, 0), 11);
    }

    private static void splitOfNone() {
        TermCodec x = new TermCodec();
        Check.due("8: no TERM", x.split(), NONE);
        for (int kind : new int[] {0, 5, 6, 7, 9, 10, 11}) {
            x.node(kind, kind == 0 ? 1 : 0);
            Check.due("8: kind " + kind, x.split(), NONE);
        }
        x.bytes(0, 8);
        Check.due("8: BYTES", x.split(), NONE);
        Check.due("8: terms stay", x.look(0), 8);
        Check.due("8: nodes stay", x.look(1), 8);
    }
}
