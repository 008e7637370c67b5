/** Promises 15 to 18 and 20: what is told of terms and of the object. */
public final class LookTest {
    private static final int NONE = TermCodec.NONE;
    private static final int[] FAR = {Integer.MIN_VALUE, -200, -1, 200, 4096, Integer.MAX_VALUE};

    public static void main(String[] args) {
        ofEach();
        ofNone();
        lacks();
        parents();
        number();
        byteAt();
        same();
        sameDiffers();
        look();
        Check.due("NONE", TermCodec.NONE, -1);
        Check.end();
    }

    /**
     * APPLY(LAMBDA(APPLY(VARIABLE 3, BYTES 2)), FORCE(DELAY(INTEGER 300))) above a UNIT: the
     * NODES are 0 APPLY, 1 LAMBDA, 2 APPLY, 3 VARIABLE, 4 BYTES, 5 FORCE, 6 DELAY, 7 INTEGER.
     */
    private static TermCodec sample() {
        TermCodec x = new TermCodec();
        x.node(10, 0);
        x.node(0, 3);
        x.bytes(0x80ff, 2);
        x.node(2, 0);
        x.node(1, 0);
        x.node(7, 300);
        x.node(3, 0);
        x.node(4, 0);
        x.node(2, 0);
        return x;
    }

    private static void ofEach() {
        TermCodec x = sample();
        int[][] due = {
            {2, 1, 2, 0, 8, 4, 3, 7},
            {8, 4, 3, 1, 1, 3, 2, 1},
            {4, 3, 2, 1, 1, 3, 2, 1},
            {2, 2, 3, 3, 0, 0, 0, 0},
            {NONE, 0, 1, 2, 2, 0, 5, 6},
            {NONE, NONE, NONE, NONE, 2, NONE, NONE, NONE}};
        for (int w = 0; w < due.length; w++) {
            for (int k = 0; k < due[w].length; k++) {
                Check.due("15: of(" + k + ", " + w + ")", x.of(k, w), due[w][k]);
            }
        }
        x.bytes(0, 0);
        Check.due("15: no BYTES in it", x.of(0, 5), 0);
    }

    private static void ofNone() {
        TermCodec x = sample();
        for (int w = 0; w <= 5; w++) {
            Check.due("15: of(8, " + w + ")", x.of(8, w), NONE);
            Check.due("15: of(-1, " + w + ")", x.of(-1, w), NONE);
            for (int k : FAR) {
                Check.due("15: of(" + k + ", " + w + ")", x.of(k, w), NONE);
            }
            Check.due("15: of nothing", new TermCodec().of(0, w), NONE);
        }
        for (int w : new int[] {-1, 6, Integer.MIN_VALUE, Integer.MAX_VALUE}) {
            Check.due("15: of(0, " + w + ")", x.of(0, w), NONE);
        }
    }

    private static void lacks() {
        TermCodec x = new TermCodec();
        x.node(0, 200);
        Check.due("15: VARIABLE 200 lacks", x.of(0, 3), 200);
        for (int i = 1; i <= 59; i++) {
            x.node(1, 0);
            Check.due("15: with " + i + " LAMBDAS", x.of(0, 3), 200 - i);
        }
        x.clear();
        x.node(0, 1);
        x.node(1, 0);
        Check.due("15: closed", x.of(0, 3), 0);
        x.node(1, 0);
        Check.due("15: not below 0", x.of(0, 3), 0);
        x.node(0, 2);
        x.node(2, 0);
        Check.due("15: the argument's", x.of(0, 3), 2);
        x.node(0, 5);
        x.node(3, 0);
        x.node(4, 0);
        x.node(2, 0);
        Check.due("15: the greatest", x.of(0, 3), 5);
        x.node(0, 4);
        x.node(2, 0);
        Check.due("15: the function's", x.of(0, 3), 5);
        x.node(1, 0);
        Check.due("15: one less", x.of(0, 3), 4);
    }

    private static void parents() {
        TermCodec x = new TermCodec();
        for (int i = 0; i < 4; i++) {
            x.node(10, 0);
        }
        x.node(2, 0);
        x.node(2, 0);
        x.node(2, 0);
        int[] right = {NONE, 0, 0, 2, 2, 4, 4};
        for (int k = 0; k < right.length; k++) {
            Check.due("15: right comb " + k, x.of(k, 4), right[k]);
        }
        x.clear();
        x.node(10, 0);
        for (int i = 0; i < 3; i++) {
            x.node(10, 0);
            x.node(2, 0);
        }
        int[] left = {NONE, 0, 1, 2, 2, 1, 0};
        for (int k = 0; k < left.length; k++) {
            Check.due("15: left comb " + k, x.of(k, 4), left[k]);
        }
    }

    private static void number() {
        TermCodec x = new TermCodec();
        Check.badArgument("16: no TERM", () -> x.number(0));
        x.node(0, 200);
        x.node(6, 17);
        x.node(2, 0);
        x.node(7, Long.MIN_VALUE);
        x.node(9, 1);
        x.node(2, 0);
        x.node(2, 0);
        Check.due("16: VARIABLE", x.number(2), 200);
        Check.due("16: BUILTIN", x.number(3), 17);
        Check.due("16: INTEGER", x.number(5), Long.MIN_VALUE);
        Check.due("16: TRUTH", x.number(6), 1);
        for (int k : new int[] {0, 1, 4, 7}) {
            Check.badArgument("16: number(" + k + ")", () -> x.number(k));
        }
        for (int k : FAR) {
            Check.badArgument("16: number(" + k + ")", () -> x.number(k));
        }
        for (int kind : new int[] {5, 10, 11}) {
            x.node(kind, 0);
            Check.badArgument("16: kind " + kind, () -> x.number(0));
        }
        for (int kind : new int[] {1, 3, 4}) {
            x.node(kind, 0);
            Check.badArgument("16: kind " + kind, () -> x.number(0));
        }
        x.bytes(1, 1);
        Check.badArgument("16: BYTES", () -> x.number(0));
    }

    private static void byteAt() {
        TermCodec x = sample();
        Check.due("17: byte 0", x.byteAt(4, 0), 0x80);
        Check.due("17: byte 1", x.byteAt(4, 1), 0xff);
        Check.due("17: byte 2", x.byteAt(4, 2), NONE);
        for (int j : FAR) {
            Check.due("17: byte " + j, x.byteAt(4, j), NONE);
        }
        for (int k : FAR) {
            Check.due("17: node " + k, x.byteAt(k, 0), NONE);
        }
        for (int k : new int[] {0, 1, 2, 3, 5, 6, 7, 8}) {
            Check.due("17: node " + k, x.byteAt(k, 0), NONE);
        }
        Check.due("17: no TERM", new TermCodec().byteAt(0, 0), NONE);
        TermCodec y = new TermCodec();
        y.bytes(0, 0);
        Check.due("17: no BYTES", y.byteAt(0, 0), NONE);
        for (int i = 0; i < 64; i++) {
            y.more(255 - 3 * i, 1);
        }
        for (int i = 0; i < 64; i++) {
            Check.due("17: of 64, byte " + i, y.byteAt(0, i), 255 - 3 * i);
        }
        Check.due("17: of 64, byte 64", y.byteAt(0, 64), NONE);
    }

    private static void same() {
        TermCodec x = new TermCodec();
        Check.badState("18: no TERM", () -> x.same());
        x.bytes(0x0102, 2);
        Check.badState("18: one TERM", () -> x.same());
        x.bytes(1, 1);
        Check.due("18: not yet", x.same(), false);
        x.more(2, 1);
        Check.due("18: the same BYTES", x.same(), true);
        x.node(2, 0);
        Check.badState("18: one again", () -> x.same());
        x.twice();
        Check.due("18: twice", x.same(), true);
        x.node(10, 0);
        Check.due("18: the two last alone", x.same(), false);
        Check.due("18: all stay", x.look(0), 3);
        // BYTES that went must not be seen in those that come in their place.
        TermCodec y = new TermCodec();
        y.bytes(-1, 8);
        y.drop();
        y.bytes(5, 1);
        y.bytes(5, 1);
        Check.due("18: fewer BYTES where there were more", y.same(), true);
    }

    private static void differs(String what, TermCodec x) {
        Check.due("18: " + what, x.same(), false);
        Check.due("18: " + what + ", same itself", x.twice() && x.same(), true);
    }

    private static void sameDiffers() {
        TermCodec x = new TermCodec();
        x.node(10, 0);
        x.node(11, 0);
        differs("kinds", x);
        x.node(7, 1);
        x.node(7, 1L + (1L << 32));
        differs("numbers", x);
        x.node(0, 1);
        x.node(0, 2);
        differs("VARIABLES", x);
        x.node(7, 1);
        x.node(9, 1);
        differs("kinds with the same number", x);
        x.bytes(0x010203, 3);
        x.bytes(0x010204, 3);
        differs("the last byte", x);
        x.bytes(0x010203, 3);
        x.bytes(0x020203, 3);
        differs("the first byte", x);
        x.bytes(0, 3);
        x.bytes(0, 4);
        differs("how many BYTES", x);
        x.node(10, 0);
        x.node(10, 0);
        x.node(3, 0);
        differs("how many NODES", x);
        x.clear();
        for (int t = 0; t < 2; t++) {
            x.node(10, 0);
            x.node(10, 0);
            x.node(t == 0 ? 10 : 11, 0);
            x.node(2, 0);
            x.node(2, 0);
        }
        differs("the last NODE", x);
        x.clear();
        // The same leaves in another shape: (u u) (u u), and ((u u) u) u.
        for (int i = 0; i < 2; i++) {
            x.node(10, 0);
            x.node(10, 0);
            x.node(2, 0);
        }
        x.node(2, 0);
        x.node(10, 0);
        for (int i = 0; i < 3; i++) {
            x.node(10, 0);
            x.node(2, 0);
        }
        differs("the shape", x);
    }

    private static void look() {
        TermCodec x = sample();
        Check.due("20: terms", x.look(0), 2);
        Check.due("20: nodes", x.look(1), 9);
        Check.due("20: no output", x.look(2), 0);
        Check.due("20: the last TERM's bytes", x.look(7), 14);
        x.write();
        Check.due("20: output", x.look(2), 14);
        Check.give(x, "0a 01 00 02 0a");
        Check.due("20: input", x.look(3), 5);
        Check.due("20: AT", x.look(4), 0);
        x.read();
        Check.due("20: AT behind UNIT", x.look(4), 1);
        Check.due("20: no fault", x.look(5), 0);
        Check.due("20: no place", x.look(6), NONE);
        x.read();
        Check.due("20: AT stays", x.look(4), 1);
        Check.due("20: a fault", x.look(5), 4);
        Check.due("20: a place", x.look(6), 2);
        x.cut(0);
        x.wipe();
        x.turn();
        Check.due("20: the fault stays", x.look(5), 4);
        Check.due("20: the place stays", x.look(6), 2);
        Check.due("20: UNIT's bytes", x.look(7), 1);
        for (int which : new int[] {-1, 8, 9, Integer.MIN_VALUE, Integer.MAX_VALUE}) {
            Check.due("20: look(" + which + ")", x.look(which), NONE);
        }
    }
}
