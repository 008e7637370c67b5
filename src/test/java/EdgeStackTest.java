/** Promises 1 to 8: each sentence that names an edge, by itself. */
public final class EdgeStackTest {
    private static final int NONE = TermCodec.NONE;
    private static final int[] NOT_TO_8 = {-1, 9, 64, 256, 264, -256, Integer.MIN_VALUE, Integer.MIN_VALUE + 8,
        Integer.MAX_VALUE};
    private static final long DIGITS = 0xf1e2d3c4b5a69788L;
    private static final String[] DIGIT = {"f1", "e2", "d3", "c4", "b5", "a6", "97", "88"};

    public static void main(String[] args) {
        Check.sentence("1: No TERMS", EdgeStackTest::noTerms);
        Check.sentence("1: no bytes", EdgeStackTest::noBytes);
        Check.sentence("2: The STACK is empty", EdgeStackTest::cleared);
        Check.sentence("3: A NODE comes to the STACK (but BYTES)", EdgeStackTest::nodeComes);
        Check.sentence("3: of the last TERM for 1, 3, 4", EdgeStackTest::nodeOfLast);
        Check.sentence("3: of the two last for 2, the deeper one being the function", EdgeStackTest::nodeOfTwo);
        Check.sentence("3: arg is 0 where there is no number", EdgeStackTest::argumentIsZero);
        Check.sentence("3: How many TERMS there are", EdgeStackTest::nodeAnswers);
        Check.sentence("3: IllegalArgumentException if there is no such kind (8 is none here)", EdgeStackTest::noKind);
        Check.sentence("3: IllegalArgumentException if there is no such arg", EdgeStackTest::noArgument);
        Check.sentence("3: IllegalStateException if there are too few TERMS", EdgeStackTest::tooFewTerms);
        Check.sentence("3: IllegalStateException if there are 200 NODES", EdgeStackTest::nodeOf200);
        Check.sentence("3: IllegalStateException if the DEPTH would be above 60", EdgeStackTest::nodeTooDeep);
        Check.sentence("4: BYTES: the n lowest of part, 0 .. 8, the highest first", EdgeStackTest::lowestBytes);
        Check.sentence("4: how many TERMS there are", EdgeStackTest::bytesAnswers);
        Check.sentence("4: IllegalArgumentException if n is not so", EdgeStackTest::bytesNotSo);
        Check.sentence("4: IllegalStateException if there are 200 NODES", EdgeStackTest::bytesOf200);
        Check.sentence("5: The last TERM, which is BYTES, gets n more, 1 .. 8, likewise: true", EdgeStackTest::moreBytes);
        Check.sentence("5: false if it is none", EdgeStackTest::moreOfNone);
        Check.sentence("5: n is none", EdgeStackTest::moreNotSo);
        Check.sentence("5: or it would have more than 64", EdgeStackTest::moreThan64);
        Check.sentence("6: The last TERM goes: true", EdgeStackTest::lastGoes);
        Check.sentence("6: false if there is none", EdgeStackTest::dropOfNone);
        Check.sentence("7: The last TERM is on the STACK once more: true", EdgeStackTest::onceMore);
        Check.sentence("7: false if there is none", () -> Check.due("twice", new TermCodec().twice(), false));
        Check.sentence("7: or no room", EdgeStackTest::noRoomForTwice);
        Check.sentence("8: The last TERM, which is of something, goes, and what it is of comes", EdgeStackTest::splits);
        Check.sentence("8: the function first", EdgeStackTest::functionFirst);
        Check.sentence("8: how many that are", EdgeStackTest::splitAnswers);
        Check.sentence("8: NONE if there is none such", EdgeStackTest::splitOfNone);
        Check.end();
    }

    private static void noTerms() {
        TermCodec x = new TermCodec();
        Check.due("TERMS", x.look(0), 0);
        Check.due("NODES", x.look(1), 0);
        Check.due("bytes of the last", x.look(7), NONE);
        Check.due("NODE 0", x.of(0, 0), NONE);
        Check.due("drop", x.drop(), false);
        Check.badState("DELAY", () -> x.node(3, 0));
        Check.badState("same", () -> x.same());
        Check.due("write", x.write(), NONE);
        Make.units(x, 5);
        Check.due("TERMS of another", new TermCodec().look(0), 0);
    }

    private static void noBytes() {
        TermCodec x = new TermCodec();
        Check.due("OUTPUT", x.look(2), 0);
        Check.due("INPUT", x.look(3), 0);
        Check.due("AT", x.look(4), 0);
        Check.due("byte 0", x.output(0), NONE);
        Check.due("cut(1)", x.cut(1), false);
        Check.due("cut(0)", x.cut(0), true);
        Check.due("read", x.read(), NONE);
        Check.due("fault", x.look(5), 0);
        Check.due("place", x.look(6), NONE);
    }

    private static void cleared() {
        TermCodec x = new TermCodec();
        x.clear();
        Check.due("TERMS of none", x.look(0), 0);
        Make.units(x, 200);
        x.clear();
        Check.due("TERMS of 200", x.look(0), 0);
        Check.due("NODES of 200", x.look(1), 0);
        Check.due("bytes of the last", x.look(7), NONE);
        Check.due("NODE 0", x.of(0, 0), NONE);
        Check.due("drop", x.drop(), false);
        Check.due("twice", x.twice(), false);
        Check.badState("FORCE", () -> x.node(4, 0));
        for (int i = 1; i <= 200; i++) {
            Check.due("room again", x.node(11, 0), i);
        }
        x.clear();
        Make.longData(x);
        x.clear();
        x.bytes(0x77, 1);
        Check.due("nothing is left of what was there", Check.written(x), "08 01 77");
    }

    private static void nodeComes() {
        TermCodec x = new TermCodec();
        int nodes = 0;
        for (int kind : new int[] {0, 5, 6, 7, 9, 10, 11, 1, 3, 4, 2}) {
            x.node(kind, kind == 0 ? 1 : 0);
            nodes++;
            Check.due("NODES", x.look(1), nodes);
            Check.due("kind", x.of(0, 0), kind);
        }
        Check.badArgument("BYTES", () -> x.node(8, 0));
    }

    private static void nodeOfLast() {
        for (int kind : new int[] {1, 3, 4}) {
            TermCodec x = new TermCodec();
            x.node(7, 1);
            Check.due("the only TERM", x.node(kind, 0), 1);
            Check.due("its bytes", Check.written(x), "0" + kind + " 07 01");
            x.node(7, 2);
            Check.due("the last of two", x.node(kind, 0), 2);
            Check.due("both", Check.stackOf(x), "0" + kind + " 07 02 | 0" + kind + " 07 01");
        }
    }

    private static void nodeOfTwo() {
        TermCodec x = new TermCodec();
        for (int v = 1; v <= 4; v++) {
            x.node(7, v);
        }
        Check.due("the last two of four", x.node(2, 0), 3);
        Check.due("its bytes", Check.written(x), "02 07 03 07 04");
        x.node(2, 0);
        Check.due("its bytes then", Check.written(x), "02 07 02 02 07 03 07 04");
        Check.due("the only two", x.node(2, 0), 1);
        Check.due("all bytes", Check.written(x), "02 07 01 02 07 02 02 07 03 07 04");
        x.clear();
        Make.data(x, 3);
        x.node(3, 0);
        x.node(0, 5);
        x.node(2, 0);
        Check.due("a great function, a small argument", Check.written(x), "02 03 08 03 01 02 03 00 05");
    }

    private static void argumentIsZero() {
        TermCodec x = new TermCodec();
        Make.units(x, 8);
        for (int kind : new int[] {1, 2, 3, 4, 5, 10, 11}) {
            Check.due("0", Check.thrownBy(() -> x.node(kind, 0)), "nothing");
            for (long arg : new long[] {1, -1, 256, 1L << 32, Long.MIN_VALUE, Long.MAX_VALUE}) {
                Check.badArgument("node(" + kind + ", " + arg + ")", () -> x.node(kind, arg));
            }
        }
    }

    private static void nodeAnswers() {
        TermCodec x = new TermCodec();
        for (int i = 1; i <= 199; i++) {
            Check.due("leaf", x.node(9, 1), i);
        }
        Check.due("the 200th NODE, of two", x.node(2, 0), 198);
        x.drop();
        Check.due("of one", x.node(1, 0), 197);
        x.clear();
        Check.due("the first again", x.node(9, 1), 1);
    }

    private static void noKind() {
        TermCodec x = new TermCodec();
        Make.units(x, 2);
        for (int kind : new int[] {8, -1, 12, 13, 255, 256, 266, Integer.MIN_VALUE, Integer.MAX_VALUE}) {
            for (long arg : new long[] {0, 1}) {
                Check.badArgument("node(" + kind + ", " + arg + ")", () -> x.node(kind, arg));
            }
        }
        Check.due("TERMS", x.look(0), 2);
    }

    private static void noArgument() {
        TermCodec x = new TermCodec();
        long[][] wrong = {{0, 0}, {0, 201}, {0, -1}, {0, 1L << 32 | 1}, {0, Long.MIN_VALUE | 1}, {6, -1}, {6, 32},
            {6, 1L << 32}, {6, 256}, {9, -1}, {9, 2}, {9, 1L << 32 | 1}, {9, 256}};
        for (long[] w : wrong) {
            Check.badArgument("node(" + w[0] + ", " + w[1] + ")", () -> x.node((int) w[0], w[1]));
        }
        long[][] right = {{0, 1}, {0, 200}, {6, 0}, {6, 31}, {9, 0}, {9, 1}};
        for (int i = 0; i < right.length; i++) {
            Check.due("node(" + right[i][0] + ", " + right[i][1] + ")", x.node((int) right[i][0], right[i][1]), i + 1);
        }
    }

    private static void tooFewTerms() {
        TermCodec x = new TermCodec();
        for (int kind = 1; kind <= 4; kind++) {
            int k = kind;
            Check.badState("kind " + k + " of none", () -> x.node(k, 0));
        }
        x.node(10, 0);
        Check.badState("APPLY of one", () -> x.node(2, 0));
        x.twice();
        x.node(2, 0);
        Check.badState("APPLY of one with three NODES", () -> x.node(2, 0));
        Check.due("DELAY of one", x.node(3, 0), 1);
        x.drop();
        Check.badState("DELAY of none", () -> x.node(3, 0));
    }

    private static void nodeOf200() {
        TermCodec x = new TermCodec();
        Make.units(x, 199);
        Check.due("the 200th", x.node(4, 0), 199);
        for (int kind : new int[] {0, 1, 2, 3, 4, 5, 6, 7, 9, 10, 11}) {
            Check.badState("kind " + kind, () -> x.node(kind, kind == 0 ? 1 : 0));
        }
        Check.due("NODES", x.look(1), 200);
        x.split();
        Check.due("199 NODES", x.look(1), 199);
        Check.due("the 200th of two", x.node(2, 0), 198);
        Check.badState("the 201st of two", () -> x.node(2, 0));
    }

    private static void nodeTooDeep() {
        for (int kind : new int[] {1, 3, 4}) {
            TermCodec x = new TermCodec();
            Make.chain(x, kind, 59);
            Check.due("DEPTH 60", x.node(kind, 0), 1);
            Check.badState("DEPTH 61", () -> x.node(kind, 0));
            Check.due("DEPTH", x.of(0, 2), 60);
        }
        TermCodec x = new TermCodec();
        Make.chain(x, 1, 60);
        x.node(10, 0);
        Check.badState("the function is too deep", () -> x.node(2, 0));
        x.clear();
        x.node(10, 0);
        Make.chain(x, 1, 60);
        Check.badState("the argument is too deep", () -> x.node(2, 0));
        x.split();
        Check.due("59 is not", x.node(2, 0), 1);
        x.clear();
        Make.chain(x, 1, 59);
        x.node(10, 0);
        Check.due("59 of the function is not", x.node(2, 0), 1);
        x.node(10, 0);
        Check.due("a leaf behind DEPTH 60", x.of(0, 2), 1);
        Check.due("a DELAY behind DEPTH 60", x.node(3, 0), 2);
    }

    private static String lowest(int n) {
        StringBuilder text = new StringBuilder();
        for (int i = 8 - n; i < 8; i++) {
            text.append(' ').append(DIGIT[i]);
        }
        return text.toString();
    }

    private static void lowestBytes() {
        TermCodec x = new TermCodec();
        for (int n = 0; n <= 8; n++) {
            x.bytes(DIGITS, n);
            Check.due("bytes of " + n, Check.written(x), "08 0" + n + lowest(n));
            Check.due("how many", x.of(0, 5), n);
        }
    }

    private static void bytesAnswers() {
        TermCodec x = new TermCodec();
        for (int i = 1; i <= 200; i++) {
            Check.due("bytes", x.bytes(i, i % 9), i);
        }
        Check.due("NODES", x.look(1), 200);
    }

    private static void bytesNotSo() {
        TermCodec x = new TermCodec();
        for (int n : NOT_TO_8) {
            Check.badArgument("n = " + n, () -> x.bytes(1, n));
        }
        Check.due("TERMS", x.look(0), 0);
        Check.due("n = 0", x.bytes(1, 0), 1);
        Check.due("n = 8", x.bytes(1, 8), 2);
    }

    private static void bytesOf200() {
        TermCodec x = new TermCodec();
        Make.units(x, 199);
        Check.due("the 200th", x.bytes(1, 1), 200);
        for (int n : new int[] {0, 1, 8}) {
            Check.badState("the 201st, n = " + n, () -> x.bytes(1, n));
        }
        Check.due("the 200th stays", Check.written(x), "08 01 01");
        // Room is counted by NODES, not by TERMS.
        x.drop();
        x.node(2, 0);
        Check.due("TERMS", x.look(0), 198);
        Check.badState("200 NODES in fewer TERMS", () -> x.bytes(1, 1));
    }

    private static void moreBytes() {
        for (int n = 1; n <= 8; n++) {
            TermCodec x = new TermCodec();
            x.bytes(0x55, 1);
            Check.due("more of " + n, x.more(DIGITS, n), true);
            Check.due("bytes of " + n, Check.written(x), "08 0" + (n + 1) + " 55" + lowest(n));
            Check.due("length", x.look(7), n + 3);
            Check.due("TERMS", x.look(0), 1);
            Check.due("NODES", x.look(1), 1);
        }
        TermCodec x = new TermCodec();
        x.bytes(0, 0);
        Check.due("more of none yet", x.more(DIGITS, 8), true);
        Check.due("bytes", Check.written(x), "08 08" + lowest(8));
        x.twice();
        Check.due("more of the last", x.more(1, 1), true);
        Check.due("the last alone", Check.stackOf(x), "08 09" + lowest(8) + " 01 | 08 08" + lowest(8));
    }

    private static void moreOfNone() {
        TermCodec x = new TermCodec();
        Check.due("no TERM", x.more(1, 1), false);
        x.bytes(1, 1);
        for (int kind : new int[] {1, 3, 4}) {
            x.node(kind, 0);
            Check.due("BYTES within kind " + kind, x.more(1, 1), false);
        }
        x.bytes(1, 1);
        x.node(2, 0);
        Check.due("BYTES as an argument", x.more(1, 1), false);
        for (int kind : new int[] {0, 5, 6, 7, 9, 10, 11}) {
            x.bytes(1, 1);
            x.node(kind, kind == 0 ? 1 : 0);
            Check.due("kind " + kind + " above BYTES", x.more(1, 1), false);
        }
        x.drop();
        Check.due("BYTES again", x.more(1, 1), true);
        x.clear();
        Check.due("BYTES that went", x.more(1, 1), false);
    }

    private static void moreNotSo() {
        TermCodec x = new TermCodec();
        x.bytes(1, 1);
        Check.due("n = 0", x.more(1, 0), false);
        for (int n : NOT_TO_8) {
            Check.due("n = " + n, x.more(1, n), false);
        }
        Check.due("how many", x.of(0, 5), 1);
        Check.due("n = 1", x.more(1, 1), true);
        Check.due("n = 8", x.more(1, 8), true);
    }

    private static void moreThan64() {
        for (int count = 56; count <= 64; count++) {
            for (int n = 1; n <= 8; n++) {
                TermCodec x = new TermCodec();
                Make.data(x, count);
                boolean due = count + n <= 64;
                Check.due(n + " behind " + count, x.more(DIGITS, n), due);
                Check.due("how many", x.of(0, 5), due ? count + n : count);
                Check.due("the last one", x.byteAt(0, due ? count + n - 1 : count - 1), due ? 0x88 : count);
                Check.due("none behind it", x.byteAt(0, due ? count + n : count), NONE);
            }
        }
    }

    private static void lastGoes() {
        TermCodec x = new TermCodec();
        x.node(7, 1);
        Make.chain(x, 3, 60);
        x.node(7, 2);
        Check.due("the last", x.drop(), true);
        Check.due("NODES", x.look(1), 61);
        Check.due("all NODES of the last", x.drop(), true);
        Check.due("NODES", x.look(1), 1);
        Check.due("TERMS", x.look(0), 1);
        Check.due("the first is there", x.number(0), 1);
        Check.due("the only one", x.drop(), true);
        Check.due("NODES", x.look(1), 0);
        Make.units(x, 200);
        Check.due("the 200th", x.drop(), true);
        Check.due("room for one", x.node(5, 0), 200);
    }

    private static void dropOfNone() {
        TermCodec x = new TermCodec();
        Check.due("a new object", x.drop(), false);
        x.node(5, 0);
        x.drop();
        Check.due("behind the last", x.drop(), false);
        Check.due("TERMS", x.look(0), 0);
        x.node(5, 0);
        x.clear();
        Check.due("behind clear", x.drop(), false);
    }

    private static void onceMore() {
        TermCodec x = new TermCodec();
        x.node(11, 0);
        x.node(0, 9);
        Make.longData(x);
        x.node(2, 0);
        x.node(1, 0);
        int[] before = new int[24];
        for (int i = 0; i < 24; i++) {
            before[i] = x.of(i / 6, i % 6);
        }
        Check.due("twice", x.twice(), true);
        Check.due("TERMS", x.look(0), 3);
        Check.due("NODES", x.look(1), 9);
        for (int i = 0; i < 24; i++) {
            Check.due("of(" + i / 6 + ", " + i % 6 + ")", x.of(i / 6, i % 6), before[i]);
        }
        Check.due("the last byte", x.byteAt(3, 63), 64);
        Check.due("VARIABLE", x.number(2), 9);
        Check.due("same", x.same(), true);
        x.drop();
        Check.due("the first of both", x.byteAt(3, 63), 64);
        x.drop();
        Check.due("what was below", x.of(0, 0), 11);
        x.clear();
        x.bytes(0x61, 1);
        x.twice();
        x.node(2, 0);
        x.twice();
        x.split();
        x.more(0x62, 1);
        Check.due("each has NODES of its own", Check.stackOf(x), "08 02 61 62 | 08 01 61 | 02 08 01 61 08 01 61");
    }

    private static void noRoomForTwice() {
        TermCodec x = Check.having(Make.broad(99) + "03" + Make.broad(99) + Make.broad(101));
        x.read();
        x.read();
        x.node(11, 0);
        Check.due("NODES", x.look(1), 200);
        Check.due("1 to 200", x.twice(), false);
        x.drop();
        x.drop();
        x.drop();
        Check.due("101 NODES", x.read(), 0);
        Check.due("101 to 101", x.twice(), false);
        Check.due("NODES stay", x.look(1), 101);
        Check.due("TERMS stay", x.look(0), 1);
        x.cut(x.look(3));
        x.clear();
        x.read();
        x.clear();
        x.read();
        Check.due("100 to 100", x.twice(), true);
        Check.due("NODES", x.look(1), 200);
        Check.due("the last NODE", x.of(99, 0), 10);
        Check.due("same", x.same(), true);
        x.drop();
        x.node(3, 0);
        Check.due("101 to 101 again", x.twice(), false);
        TermCodec y = new TermCodec();
        Make.units(y, 199);
        Check.due("1 to 199", y.twice(), true);
        Check.due("NODES", y.look(1), 200);
        Check.due("1 to 200", y.twice(), false);
    }

    private static void splits() {
        for (int kind : new int[] {1, 3, 4}) {
            TermCodec x = new TermCodec();
            x.node(11, 0);
            Make.longData(x);
            x.node(kind, 0);
            Check.due("kind " + kind, x.split(), 1);
            Check.due("TERMS", x.look(0), 2);
            Check.due("NODES", x.look(1), 2);
            Check.due("how many BYTES", x.of(0, 5), 64);
            Check.due("the last byte", x.byteAt(0, 63), 64);
            Check.due("its length", x.look(7), 66);
            x.drop();
            Check.due("what was below", x.of(0, 0), 11);
        }
        TermCodec x = new TermCodec();
        Make.chain(x, 1, 60);
        for (int depth = 59; depth >= 1; depth--) {
            Check.due("split", x.split(), 1);
            Check.due("DEPTH", x.of(0, 2), depth);
            Check.due("NODES", x.look(1), depth);
        }
        Check.due("no more", x.split(), NONE);
    }

    private static void functionFirst() {
        TermCodec x = new TermCodec();
        x.node(5, 0);
        x.node(7, 300);
        x.node(3, 0);
        x.bytes(0x0102, 2);
        x.node(0, 1);
        x.node(2, 0);
        x.node(2, 0);
        Check.due("split", x.split(), 2);
        Check.due("all", Check.stackOf(x), "02 08 02 01 02 00 01 | 03 07 ac 02 | 05");
    }

    private static void splitAnswers() {
        TermCodec x = new TermCodec();
        Make.units(x, 2);
        x.node(2, 0);
        x.node(4, 0);
        x.node(3, 0);
        x.node(1, 0);
        for (int due : new int[] {1, 1, 1, 2}) {
            Check.due("split", x.split(), due);
        }
        Check.due("TERMS", x.look(0), 2);
        Check.due("NODES", x.look(1), 2);
        x.clear();
        Make.units(x, 199);
        x.node(2, 0);
        Check.due("with 200 NODES", x.split(), 2);
        Check.due("199 TERMS", x.look(0), 199);
        Check.due("199 NODES", x.look(1), 199);
    }

    private static void splitOfNone() {
        TermCodec x = new TermCodec();
        Check.due("no TERM", x.split(), NONE);
        x.node(10, 0);
        x.node(3, 0);
        for (int kind : new int[] {0, 5, 6, 7, 9, 10, 11}) {
            x.node(kind, kind == 0 ? 1 : 0);
            Check.due("kind " + kind + " above a DELAY", x.split(), NONE);
            x.drop();
        }
        x.bytes(0x0101, 2);
        Check.due("BYTES", x.split(), NONE);
        x.clear();
        Check.due("a TERM that went", x.split(), NONE);
    }
}
