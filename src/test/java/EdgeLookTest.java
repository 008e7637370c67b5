/** Promises 15 to 18 and 20: each sentence that names an edge, by itself. */
public final class EdgeLookTest {
    private static final int NONE = TermCodec.NONE;
    private static final int[] FAR = {-1, -2, 200, 201, 4096, 1 << 16, 1 << 29, Integer.MIN_VALUE, Integer.MAX_VALUE};

    public static void main(String[] args) {
        Check.sentence("15: Of NODE k of the last TERM", EdgeLookTest::ofLast);
        Check.sentence("15: w = 0: its kind", EdgeLookTest::ofKind);
        Check.sentence("15: 1: how many NODES it has", EdgeLookTest::ofNodes);
        Check.sentence("15: 2: its DEPTH", EdgeLookTest::ofDepth);
        Check.sentence("15: 3: how many LAMBDAS it LACKS", EdgeLookTest::ofLacks);
        Check.sentence("15: 4: the NODE that it is of at once (NONE for 0)", EdgeLookTest::ofParent);
        Check.sentence("15: 5: how many BYTES it has (NONE for another kind)", EdgeLookTest::ofData);
        Check.sentence("15: NONE if there is none such", EdgeLookTest::ofNone);
        Check.sentence("15: or no such w", EdgeLookTest::noSuchW);
        Check.sentence("16: The number of NODE k of the last TERM: a VARIABLE, BUILTIN, INTEGER or TRUTH",
            EdgeLookTest::numbers);
        Check.sentence("16: IllegalArgumentException if there is none such", EdgeLookTest::noNumber);
        Check.sentence("17: Byte j of NODE k of the last TERM, BYTES", EdgeLookTest::dataByte);
        Check.sentence("17: NONE if there is none such", EdgeLookTest::noDataByte);
        Check.sentence("18: Whether the last two TERMS are the same", EdgeLookTest::lastTwo);
        Check.sentence("18: NODE by NODE", EdgeLookTest::nodeByNode);
        Check.sentence("18: IllegalStateException if there are fewer", EdgeLookTest::fewerThanTwo);
        Check.sentence("20: 0: TERMS, 1: NODES of all", EdgeLookTest::lookStack);
        Check.sentence("20: 2: bytes of the OUTPUT, 3: of the INPUT, 4: AT", EdgeLookTest::lookBytes);
        Check.sentence("20: 5: the fault of the latest read() (0 if it had none)", EdgeLookTest::lookFault);
        Check.sentence("20: 6: its place (NONE without one)", EdgeLookTest::lookPlace);
        Check.sentence("20: 7: how many bytes the last TERM has (NONE without one)", EdgeLookTest::lookLength);
        Check.sentence("20: NONE for any other which", EdgeLookTest::lookOther);
        Check.end();
    }

    /** All 200 NODES in two TERMS: a UNIT, and 199 of them, whose leaves are INTEGERS from 1 to 100. */
    private static TermCodec full() {
        TermCodec x = new TermCodec();
        x.node(10, 0);
        Make.integers(x, 1, 100);
        Check.due("NODES", x.look(1), 200);
        return x;
    }

    private static void ofLast() {
        TermCodec x = new TermCodec();
        x.node(7, 1);
        x.node(3, 0);
        x.node(7, 2);
        Check.due("of the last of two", x.of(0, 0), 7);
        Check.due("the last has one NODE", x.of(1, 0), NONE);
        x.drop();
        Check.due("of the one below", x.of(0, 0), 3);
        Check.due("it has two NODES", x.of(1, 0), 7);
        TermCodec y = full();
        Check.due("NODE 198 of 199", y.of(198, 0), 7);
        Check.due("NODE 199 of 199", y.of(199, 0), NONE);
        Check.due("the last number", y.number(198), 100);
    }

    private static void ofKind() {
        TermCodec x = Check.having("02 02 02 02 02 01 00 01 03 04 05 06 01 07 01 08 01 01 02 09 01 02 0a 0b");
        Check.due("read", x.read(), 0);
        int[] due = {2, 2, 2, 2, 2, 1, 0, 3, 4, 5, 6, 7, 8, 2, 9, 2, 10, 11};
        for (int k = 0; k < due.length; k++) {
            Check.due("of(" + k + ", 0)", x.of(k, 0), due[k]);
        }
    }

    private static void ofNodes() {
        TermCodec x = full();
        Check.due("of(0, 1)", x.of(0, 1), 199);
        Check.due("function and argument", x.of(1, 1) + x.of(1 + x.of(1, 1), 1), 198);
        Check.due("of(198, 1)", x.of(198, 1), 1);
        x.clear();
        Make.chain(x, 4, 60);
        for (int k = 0; k < 60; k++) {
            Check.due("of(" + k + ", 1)", x.of(k, 1), 60 - k);
        }
    }

    private static void ofDepth() {
        TermCodec x = new TermCodec();
        Make.chain(x, 4, 60);
        for (int k = 0; k < 60; k++) {
            Check.due("of(" + k + ", 2)", x.of(k, 2), 60 - k);
        }
        x.split();
        x.node(10, 0);
        x.node(2, 0);
        Check.due("DEPTH by the function", x.of(0, 2), 60);
        Check.due("of the argument", x.of(60, 2), 1);
    }

    private static void ofLacks() {
        TermCodec x = new TermCodec();
        x.node(0, 59);
        for (int i = 0; i < 59; i++) {
            x.node(1, 0);
        }
        for (int k = 0; k < 60; k++) {
            Check.due("of(" + k + ", 3)", x.of(k, 3), k);
        }
        x.clear();
        x.node(0, 3);
        x.node(0, 2);
        x.node(1, 0);
        x.node(2, 0);
        x.node(1, 0);
        int[] due = {2, 3, 3, 1, 2};
        for (int k = 0; k < due.length; k++) {
            Check.due("of(" + k + ", 3) of two VARIABLES", x.of(k, 3), due[k]);
        }
    }

    private static void ofParent() {
        TermCodec x = Check.having("02 03 02 0a 0b 04 02 01 0a 05");
        Check.due("read", x.read(), 0);
        int[] due = {NONE, 0, 1, 2, 2, 0, 5, 6, 7, 6};
        for (int k = 0; k < due.length; k++) {
            Check.due("of(" + k + ", 4)", x.of(k, 4), due[k]);
        }
        Make.chain(x, 3, 60);
        Check.due("NODE 0 above another TERM", x.of(0, 4), NONE);
        Check.due("the deepest", x.of(59, 4), 58);
        TermCodec y = full();
        Check.due("NODE 0 with 200 NODES", y.of(0, 4), NONE);
        Check.due("the argument of the first", y.of(1 + y.of(1, 1), 4), 0);
        Check.due("the last NODE is of an APPLY", y.of(y.of(198, 4), 0), 2);
    }

    private static void ofData() {
        TermCodec x = new TermCodec();
        for (int count = 0; count <= 64; count += 16) {
            Make.data(x, count);
            Check.due("BYTES " + count, x.of(0, 5), count);
        }
        x.node(3, 0);
        Check.due("DELAY of BYTES", x.of(0, 5), NONE);
        Check.due("BYTES within", x.of(1, 5), 64);
        x.node(2, 0);
        Check.due("APPLY of BYTES", x.of(0, 5), NONE);
        for (int kind : new int[] {0, 5, 6, 7, 9, 10, 11}) {
            x.node(kind, kind == 0 ? 1 : 0);
            Check.due("kind " + kind, x.of(0, 5), NONE);
        }
    }

    private static void ofNone() {
        for (int w = 0; w <= 5; w++) {
            TermCodec x = new TermCodec();
            Check.due("no TERM", x.of(0, w), NONE);
            x.node(10, 0);
            x.bytes(1, 1);
            Check.due("one above", x.of(1, w), NONE);
            Check.due("one below", x.of(-1, w), NONE);
            for (int k : FAR) {
                Check.due("of(" + k + ", " + w + ")", x.of(k, w), NONE);
            }
            x.clear();
            Check.due("a TERM that went", x.of(0, w), NONE);
            TermCodec y = full();
            Check.due("of(199, " + w + ") of 199", y.of(199, w), NONE);
            for (int k : FAR) {
                Check.due("of(" + k + ", " + w + ") of 199", y.of(k, w), NONE);
            }
        }
    }

    private static void noSuchW() {
        TermCodec x = new TermCodec();
        x.bytes(1, 1);
        for (int w : new int[] {-1, 6, 7, 8, 256, 1 << 30, Integer.MIN_VALUE, Integer.MAX_VALUE}) {
            Check.due("of(0, " + w + ")", x.of(0, w), NONE);
            Check.due("of(1, " + w + ")", x.of(1, w), NONE);
        }
    }

    private static void numbers() {
        TermCodec x = new TermCodec();
        long[][] all = {{0, 1}, {0, 200}, {6, 0}, {6, 31}, {7, Long.MIN_VALUE}, {7, -1}, {7, 0}, {7, Long.MAX_VALUE},
            {9, 0}, {9, 1}};
        for (long[] one : all) {
            x.node((int) one[0], one[1]);
            Check.due("number of kind " + one[0], x.number(0), one[1]);
        }
        for (int i = 1; i < all.length; i++) {
            x.node(2, 0);
        }
        for (int i = 0; i < all.length; i++) {
            int k = i == all.length - 1 ? 2 * i : 2 * i + 1;
            Check.due("number(" + k + ")", x.number(k), all[i][1]);
        }
        x.node(6, 17);
        Check.due("of the last TERM", x.number(0), 17);
    }

    private static void noNumber() {
        TermCodec x = new TermCodec();
        Check.badArgument("no TERM", () -> x.number(0));
        x.node(7, 5);
        Check.badArgument("one above", () -> x.number(1));
        for (int k : FAR) {
            Check.badArgument("number(" + k + ")", () -> x.number(k));
        }
        for (int kind : new int[] {1, 3, 4}) {
            x.node(kind, 0);
            Check.badArgument("kind " + kind, () -> x.number(0));
        }
        for (int kind : new int[] {5, 10, 11}) {
            x.node(kind, 0);
            Check.badArgument("kind " + kind, () -> x.number(0));
        }
        x.node(2, 0);
        Check.badArgument("APPLY", () -> x.number(0));
        x.bytes(5, 3);
        Check.badArgument("BYTES", () -> x.number(0));
        x.clear();
        Check.badArgument("a TERM that went", () -> x.number(0));
        TermCodec y = full();
        Check.badArgument("number(199) of 199", () -> y.number(199));
        for (int k : FAR) {
            Check.badArgument("number(" + k + ") of 199", () -> y.number(k));
        }
    }

    private static void dataByte() {
        TermCodec x = new TermCodec();
        Make.longData(x);
        x.bytes(0x00ff807fL, 4);
        x.node(2, 0);
        for (int j = 0; j < 64; j++) {
            Check.due("byteAt(1, " + j + ")", x.byteAt(1, j), j + 1);
        }
        int[] due = {0, 255, 128, 127};
        for (int j = 0; j < due.length; j++) {
            Check.due("byteAt(2, " + j + ")", x.byteAt(2, j), due[j]);
        }
        x.bytes(9, 1);
        Check.due("of the last TERM", x.byteAt(0, 0), 9);
    }

    private static void noDataByte() {
        TermCodec x = new TermCodec();
        Check.due("no TERM", x.byteAt(0, 0), NONE);
        Make.longData(x);
        Check.due("byte 64 of 64", x.byteAt(0, 64), NONE);
        x.node(3, 0);
        Check.due("a DELAY", x.byteAt(0, 0), NONE);
        Check.due("one above", x.byteAt(2, 0), NONE);
        for (int far : FAR) {
            Check.due("byteAt(1, " + far + ")", x.byteAt(1, far), NONE);
            Check.due("byteAt(" + far + ", 0)", x.byteAt(far, 0), NONE);
            Check.due("byteAt(" + far + ", " + far + ")", x.byteAt(far, far), NONE);
        }
        x.bytes(5, 0);
        Check.due("byte 0 of 0", x.byteAt(0, 0), NONE);
        x.bytes(5, 1);
        Check.due("byte 1 of 1", x.byteAt(0, 1), NONE);
        for (int kind : new int[] {0, 5, 6, 7, 9, 10, 11}) {
            x.node(kind, kind == 5 || kind > 9 ? 0 : 1);
            Check.due("kind " + kind, x.byteAt(0, 0), NONE);
        }
        x.clear();
        Check.due("BYTES that went", x.byteAt(0, 0), NONE);
    }

    private static void lastTwo() {
        TermCodec x = new TermCodec();
        x.node(7, 1);
        x.node(7, 2);
        x.node(7, 1);
        Check.due("the first and the last do not count", x.same(), false);
        x.twice();
        Check.due("the last two", x.same(), true);
        x.node(7, 2);
        Check.due("the two below do not count", x.same(), false);
        x.clear();
        Make.chain(x, 3, 50);
        x.twice();
        x.twice();
        x.twice();
        Check.due("200 NODES", x.same(), true);
        Check.due("TERMS stay", x.look(0), 4);
        // One that was read, and one that was put together.
        x.clear();
        x.bytes(0x0102, 2);
        x.more(0x03, 1);
        x.node(1, 0);
        Check.give(x, "01 08 03 01 02 03 01 08 03 01 02 04");
        x.read();
        Check.due("read", x.same(), true);
        x.read();
        Check.due("read another", x.same(), false);
    }

    private static void pair(String one, String other, boolean due) {
        TermCodec x = Check.having(one + other);
        Check.due("read " + one, x.read(), 0);
        Check.due("read " + other, x.read(), 0);
        Check.due(one + " and " + other, x.same(), due);
    }

    private static void nodeByNode() {
        String[] all = {"05", "0a", "0b", "06 00", "06 01", "06 1f", "07 00", "07 01", "07 7f", "07 ff 00", "09 00",
            "09 01", "08 00", "08 01 00", "08 01 01", "08 02 00 00", "08 09 00 00 00 00 00 00 00 00 00",
            "08 09 00 00 00 00 00 00 00 00 01", "08 09 01 00 00 00 00 00 00 00 00", "01 0a", "03 0a", "04 0a", "03 0b",
            "03 03 0a", "01 00 01", "01 01 00 01", "01 01 00 02", "02 0a 0b", "02 0b 0a", "02 0a 0a", "02 02 0a 0a 0a",
            "02 0a 02 0a 0a", "02 03 0a 0a", "02 0a 03 0a", "03 02 0a 0a", "02 08 01 00 08 01 00", "02 08 01 00 08 01 01",
            "07 ff ff ff ff ff ff ff ff ff 00", "07 80 80 80 80 80 80 80 80 80 7f", "07 80 80 80 80 10"};
        for (int i = 0; i < all.length; i++) {
            for (int j = 0; j < all.length; j++) {
                pair(all[i], all[j], i == j);
            }
        }
        String data = "08 40" + "ab".repeat(63);
        pair(data + "00", data + "01", false);
        pair(data + "00", data + "00", true);
        // What BYTES had in this place before is not theirs.
        TermCodec x = new TermCodec();
        x.bytes(5, 1);
        Make.longData(x);
        x.drop();
        x.bytes(5, 1);
        Check.due("BYTES where there were more", x.same(), true);
    }

    private static void fewerThanTwo() {
        TermCodec x = new TermCodec();
        Check.badState("none", () -> x.same());
        x.node(10, 0);
        Check.badState("one", () -> x.same());
        x.node(10, 0);
        Check.due("two", x.same(), true);
        x.node(2, 0);
        Check.badState("one of two", () -> x.same());
        x.split();
        Check.due("two again", x.same(), true);
        x.drop();
        Check.badState("one again", () -> x.same());
        x.clear();
        Check.badState("none again", () -> x.same());
    }

    private static void lookStack() {
        TermCodec x = new TermCodec();
        Check.due("TERMS of none", x.look(0), 0);
        Check.due("NODES of none", x.look(1), 0);
        Make.units(x, 200);
        Check.due("200 TERMS", x.look(0), 200);
        Check.due("200 NODES", x.look(1), 200);
        TermCodec y = full();
        Check.due("two TERMS", y.look(0), 2);
        Check.due("with 200 NODES", y.look(1), 200);
    }

    private static void lookBytes() {
        TermCodec x = new TermCodec();
        for (int which = 2; which <= 4; which++) {
            Check.due("look(" + which + ") of none", x.look(which), 0);
        }
        Make.output(x, 4096);
        Check.due("a full OUTPUT", x.look(2), 4096);
        Check.due("no INPUT", x.look(3), 0);
        x.turn();
        x.wipe();
        Check.due("no OUTPUT", x.look(2), 0);
        Check.due("a full INPUT", x.look(3), 4096);
        Check.due("AT", x.look(4), 0);
        Make.readUpTo(x, 4096);
        Check.due("AT at the end", x.look(4), 4096);
        Check.due("the INPUT stays", x.look(3), 4096);
    }

    private static void lookFault() {
        TermCodec x = new TermCodec();
        Check.due("no read yet", x.look(5), 0);
        String[] faulty = {"01", "07 80 00", "0c", "00 01", "03".repeat(60) + "0a", Make.broad(201)};
        for (int number = 1; number <= 6; number++) {
            x.cut(0);
            Check.give(x, faulty[number - 1]);
            x.read();
            Check.due("fault " + number, x.look(5), number);
            Check.due("it stays", x.look(5), number);
            x.cut(0);
            x.give(0x0a, 1);
            Check.due("it stays until a read", x.look(5), number);
            x.read();
            Check.due("0 then", x.look(5), 0);
            x.clear();
        }
    }

    private static void lookPlace() {
        TermCodec x = new TermCodec();
        Check.due("no read yet", x.look(6), NONE);
        x.give(0x0c, 1);
        x.read();
        Check.due("place 0", x.look(6), 0);
        x.cut(0);
        Check.due("it stays", x.look(6), 0);
        x.give(0x0a, 1);
        x.read();
        Check.due("none", x.look(6), NONE);
        x.give(0x02, 1);
        x.read();
        Check.due("the end", x.look(6), 2);
        x.give(0x0a0b, 2);
        x.read();
        Check.due("none again", x.look(6), NONE);
        TermCodec y = new TermCodec();
        Make.input(y, 4095);
        y.give(0xff, 1);
        Make.readUpTo(y, 4095);
        y.read();
        Check.due("the last byte of a full INPUT", y.look(6), 4095);
    }

    private static void lookLength() {
        TermCodec x = new TermCodec();
        Check.due("no TERM", x.look(7), NONE);
        long[][] all = {{5, 0, 1}, {10, 0, 1}, {11, 0, 1}, {6, 31, 2}, {9, 1, 2}, {0, 127, 2}, {0, 128, 3},
            {7, 63, 2}, {7, 64, 3}, {7, -64, 2}, {7, -65, 3}, {7, Long.MAX_VALUE, 11}, {7, Long.MIN_VALUE, 11}};
        for (long[] one : all) {
            x.node((int) one[0], one[1]);
            Check.due("kind " + one[0] + ", number " + one[1], x.look(7), one[2]);
        }
        x.bytes(0, 0);
        Check.due("no BYTES", x.look(7), 2);
        x.bytes(0, 8);
        Check.due("8 BYTES", x.look(7), 10);
        x.node(2, 0);
        Check.due("APPLY of both", x.look(7), 13);
        x.more(1, 1);
        x.node(1, 0);
        Check.due("LAMBDA of it", x.look(7), 14);
        x.clear();
        Check.due("a TERM that went", x.look(7), NONE);
        // More than the OUTPUT could have.
        Make.longData(x);
        for (int i = 0; i < 6; i++) {
            x.twice();
            x.node(2, 0);
        }
        x.node(1, 0);
        Check.due("64 times 64 BYTES", x.look(7), 64 * 66 + 63 + 1);
    }

    private static void lookOther() {
        TermCodec x = Check.having("0a 0c");
        x.read();
        x.read();
        x.write();
        for (int which : new int[] {-1, 8, 9, 10, 64, 256, 263, 1 << 30, Integer.MIN_VALUE, Integer.MAX_VALUE}) {
            Check.due("look(" + which + ")", x.look(which), NONE);
            Check.due("look(" + which + ") of a new object", new TermCodec().look(which), NONE);
        }
    }
}
