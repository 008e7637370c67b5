import java.math.BigInteger;

/** "What it is" and "Terms", but for reading: each sentence that names an edge, by itself. */
public final class EdgeTermsTest {
    private static final int NONE = TermCodec.NONE;

    public static void main(String[] args) {
        Check.sentence("at most 512 calls after it has been made", EdgeTermsTest::allCalls);
        Check.sentence("NONE = -1", () -> Check.due("NONE", TermCodec.NONE, -1));
        Check.sentence("0 VARIABLE i (1 .. 200)", () -> numbers(0, 1, 200));
        Check.sentence("6 BUILTIN b (0 .. 31)", () -> numbers(6, 0, 31));
        Check.sentence("9 TRUTH (0, 1)", () -> numbers(9, 0, 1));
        Check.sentence("7 INTEGER (a long)", EdgeTermsTest::anyLong);
        Check.sentence("8 BYTES (0 .. 64)", EdgeTermsTest::dataLengths);
        Check.sentence("kind 0 .. 11 (the list of them)", EdgeTermsTest::kinds);
        Check.sentence("Its NODES are itself and those of what it is of", EdgeTermsTest::nodeCounts);
        Check.sentence("numbered from 0 on: itself, then all of its body, function or term, then all of its argument",
            EdgeTermsTest::nodeNumbers);
        Check.sentence("Its DEPTH is 1, or 1 more than the greatest of what it is of", EdgeTermsTest::depths);
        Check.sentence("at most 60", EdgeTermsTest::greatestDepth);
        Check.sentence("A VARIABLE i is bound by the i-th LAMBDA around it, the innermost being the first",
            EdgeTermsTest::binding);
        Check.sentence("It LACKS so many LAMBDAS around it as are needed (0: it is CLOSED)", EdgeTermsTest::lacking);
        Check.sentence("THE STACK has TERMS, with up to 200 NODES together", EdgeTermsTest::stackRoom);
        Check.sentence("THE OUTPUT [has] up to 4096 bytes", EdgeTermsTest::outputRoom);
        Check.sentence("THE INPUT [has] up to 4096 bytes", EdgeTermsTest::inputRoom);
        Check.sentence("4096 bytes each", EdgeTermsTest::roomOfEach);
        Check.sentence("reading goes from the place AT of the INPUT on, 0 at first", EdgeTermsTest::readingPlace);
        Check.sentence("a byte, its kind", EdgeTermsTest::kindBytes);
        Check.sentence("BUILTIN, TRUTH: a byte", EdgeTermsTest::plainNumbers);
        Check.sentence("BYTES: how many, a byte, and they", EdgeTermsTest::dataBytes);
        Check.sentence("then those of what it is of, in their order", EdgeTermsTest::partsInOrder);
        Check.sentence("U: groups of seven bits, the lowest first, 128 added in all but the last one, as few as can be",
            EdgeTermsTest::unsignedGroups);
        Check.sentence("S: groups of its two's complement, the highest bit of the last one (64) is the sign",
            EdgeTermsTest::signedGroups);
        Check.sentence("Of several exceptions the first one listed is thrown", EdgeTermsTest::firstException);
        Check.end();
    }

    /** The 512th call is as good as the first, and so is one on another object behind it. */
    private static void allCalls() {
        TermCodec x = new TermCodec();
        for (int call = 1; call <= 200; call++) {
            Check.due("node, call " + call, x.node(7, call), call);
        }
        for (int call = 201; call <= 300; call++) {
            Check.due("drop, call " + call, x.drop(), true);
        }
        for (int call = 301; call <= 510; call++) {
            Check.due("write, call " + call, x.write(), 3 * (call - 300));
        }
        Check.due("output, call 511", x.output(628), 0xe4);
        Check.due("number, call 512", x.number(0), 100);
        Check.due("terms of another object", new TermCodec().look(0), 0);
    }

    /** A kind whose numbers go from least to greatest: by node, and by reading. */
    private static void numbers(int kind, long least, long greatest) {
        TermCodec x = new TermCodec();
        for (long v : new long[] {least, least + 1, greatest - 1, greatest}) {
            x.node(kind, v);
            Check.due("number " + v, x.number(0), v);
        }
        long[] wrong = {least - 1, greatest + 1, -greatest, Long.MIN_VALUE, Long.MAX_VALUE, least + (1L << 32),
            greatest + (1L << 32), least + (1L << 63), greatest + 256};
        for (long v : wrong) {
            Check.badArgument("node(" + kind + ", " + v + ")", () -> x.node(kind, v));
        }
        Check.due("TERMS", x.look(0), 4);
        int high = (int) greatest + 1;
        String above = high > 127 ? String.format("%02x%02x", high & 127 | 128, high >> 7) : String.format("%02x", high);
        Check.due("one above is read", Check.having("01" + String.format("%02x", kind) + above).read(), 3);
    }

    private static void anyLong() {
        TermCodec x = new TermCodec();
        long[] all = {Long.MIN_VALUE, Long.MIN_VALUE + 1, Integer.MIN_VALUE - 1L, -1, 0, 1, Integer.MAX_VALUE + 1L,
            Long.MAX_VALUE - 1, Long.MAX_VALUE};
        for (long v : all) {
            x.node(7, v);
            Check.due("INTEGER " + v, x.number(0), v);
            x.wipe();
            x.write();
            x.turn();
            Check.due("read INTEGER " + v, x.read(), 0);
            Check.due("INTEGER " + v + " that was read", x.number(0), v);
        }
    }

    private static void dataLengths() {
        for (int count = 0; count <= 64; count++) {
            TermCodec x = new TermCodec();
            Make.data(x, count);
            Check.due("BYTES " + count, x.of(0, 5), count);
            x.write();
            x.turn();
            Check.due("read BYTES " + count, x.read(), 0);
            Check.due("BYTES that were read", x.of(0, 5), count);
            Check.due("the same", x.same(), true);
        }
        TermCodec x = new TermCodec();
        Make.longData(x);
        Check.due("a 65th byte", x.more(0, 1), false);
        for (int count = 65; count <= 255; count++) {
            TermCodec y = Check.having("08" + String.format("%02x", count) + "00".repeat(count));
            Check.due("read BYTES " + count, y.read(), 3);
        }
    }

    private static void kinds() {
        TermCodec x = new TermCodec();
        Make.units(x, 3);
        for (int kind = 0; kind <= 11; kind++) {
            if (kind != 8) {
                x.node(kind, kind == 0 ? 1 : 0);
                Check.due("kind " + kind, x.of(0, 0), kind);
            }
        }
        x.bytes(0, 0);
        Check.due("kind 8", x.of(0, 0), 8);
        for (int kind : new int[] {-1, 12, 13, 127, 255, 256, 261, -251, Integer.MIN_VALUE, Integer.MAX_VALUE}) {
            Check.badArgument("kind " + kind, () -> x.node(kind, 0));
        }
        for (int kind = 12; kind <= 255; kind++) {
            Check.due("read kind " + kind, Check.having(String.format("%02x", kind)).read(), 3);
        }
    }

    private static void nodeCounts() {
        TermCodec x = new TermCodec();
        int[] leaves = {0, 5, 6, 7, 9, 10, 11};
        for (int kind : leaves) {
            x.node(kind, kind == 0 ? 1 : 0);
            Check.due("NODES of kind " + kind, x.of(0, 1), 1);
        }
        Make.longData(x);
        Check.due("NODES of BYTES", x.of(0, 1), 1);
        x.node(2, 0);
        Check.due("NODES of APPLY", x.of(0, 1), 3);
        int due = 3;
        for (int kind : new int[] {1, 3, 4}) {
            x.node(kind, 0);
            due++;
            Check.due("NODES of kind " + kind, x.of(0, 1), due);
        }
        x.node(2, 0);
        Check.due("NODES of APPLY with a great argument", x.of(0, 1), 8);
        Check.due("of its function", x.of(1, 1), 1);
        Check.due("of its argument", x.of(2, 1), 6);
        x.clear();
        Make.units(x, 1);
        for (int i = 0; i < 6; i++) {
            x.twice();
            x.node(2, 0);
        }
        Check.due("NODES of 64 UNITS", x.of(0, 1), 127);
    }

    /** APPLY(LAMBDA(DELAY(3)), FORCE(APPLY(6, 7))): each INTEGER is the number of its NODE. */
    private static void nodeNumbers() {
        TermCodec x = new TermCodec();
        x.node(7, 3);
        x.node(3, 0);
        x.node(1, 0);
        x.node(7, 6);
        x.node(7, 7);
        x.node(2, 0);
        x.node(4, 0);
        x.node(2, 0);
        int[] kinds = {2, 1, 3, 7, 4, 2, 7, 7};
        for (int k = 0; k < kinds.length; k++) {
            Check.due("kind of NODE " + k, x.of(k, 0), kinds[k]);
            if (kinds[k] == 7) {
                Check.due("number of NODE " + k, x.number(k), k);
            }
        }
        Check.due("no NODE 8", x.of(8, 0), NONE);
        Check.due("no NODE -1", x.of(-1, 0), NONE);
    }

    private static void depths() {
        TermCodec x = new TermCodec();
        for (int kind : new int[] {0, 5, 6, 7, 9, 10, 11}) {
            x.node(kind, kind == 0 ? 1 : 0);
            Check.due("DEPTH of kind " + kind, x.of(0, 2), 1);
        }
        x.bytes(0, 8);
        Check.due("DEPTH of BYTES", x.of(0, 2), 1);
        x.node(2, 0);
        Check.due("of 1 and 1", x.of(0, 2), 2);
        x.node(2, 0);
        Check.due("of 1 and 2", x.of(0, 2), 3);
        x.node(10, 0);
        x.node(2, 0);
        Check.due("of 3 and 1", x.of(0, 2), 4);
        for (int kind : new int[] {1, 3, 4}) {
            int before = x.of(0, 2);
            x.node(kind, 0);
            Check.due("one more by kind " + kind, x.of(0, 2), before + 1);
        }
        Check.due("DEPTH of a NODE inside", x.of(3, 2), 4);
        Check.due("of its function", x.of(4, 2), 3);
        Check.due("of its argument", x.of(9, 2), 1);
    }

    private static void greatestDepth() {
        for (int kind : new int[] {1, 3, 4}) {
            TermCodec x = new TermCodec();
            Make.chain(x, kind, 60);
            Check.due("DEPTH", x.of(0, 2), 60);
            Check.badState("one more", () -> x.node(kind, 0));
            x.split();
            Check.due("59 and one more", x.node(kind, 0), 1);
        }
        String delays = "03".repeat(59);
        Check.due("read DEPTH 60", Check.having(delays + "0a").read(), 0);
        Check.due("read DEPTH 61", Check.having(delays + "040a").read(), 5);
    }

    /** So many LAMBDAS, some other NODES between them, and a VARIABLE inside. */
    private static String within(int lambdas, int i) {
        return "0103".repeat(lambdas) + "00" + String.format("%02x", i);
    }

    private static void binding() {
        for (int lambdas = 0; lambdas <= 29; lambdas++) {
            for (int i = 1; i <= 31; i++) {
                int due = i <= lambdas ? 0 : 4;
                Check.due(i + " within " + lambdas, Check.having(within(lambdas, i)).read(), due);
            }
        }
        Check.due("59 within 59", Check.having("01".repeat(59) + "003b").read(), 0);
        Check.due("60 within 59", Check.having("01".repeat(59) + "003c").read(), 4);
        Check.due("a LAMBDA beside it", Check.having("02 01 0a 00 01").read(), 4);
        Check.due("a LAMBDA behind it", Check.having("02 00 01 01 0a").read(), 4);
        Check.due("around the function and the argument", Check.having("01 02 00 01 00 01").read(), 0);
        Check.due("one more in the function alone", Check.having("01 02 01 00 02 00 02").read(), 4);
        Check.due("one more in the argument alone", Check.having("01 02 00 02 01 00 02").read(), 4);
    }

    private static void lacking() {
        TermCodec x = new TermCodec();
        x.node(0, 2);
        Check.due("VARIABLE 2", x.of(0, 3), 2);
        x.node(3, 0);
        Check.due("in a DELAY", x.of(0, 3), 2);
        x.node(4, 0);
        Check.due("in a FORCE", x.of(0, 3), 2);
        x.node(1, 0);
        Check.due("in a LAMBDA", x.of(0, 3), 1);
        x.node(1, 0);
        Check.due("CLOSED", x.of(0, 3), 0);
        x.node(1, 0);
        Check.due("never below 0", x.of(0, 3), 0);
        Check.due("a NODE inside by itself", x.of(2, 3), 1);
        x.node(0, 1);
        x.node(2, 0);
        Check.due("a CLOSED function, 1 the argument", x.of(0, 3), 1);
        x.node(1, 0);
        Check.due("CLOSED again", x.of(0, 3), 0);
        x.node(0, 200);
        Check.due("VARIABLE 200", x.of(0, 3), 200);
        x.node(0, 199);
        x.node(2, 0);
        Check.due("the greater of both", x.of(0, 3), 200);
        x.node(2, 0);
        Check.due("the greater of CLOSED and 200", x.of(0, 3), 200);
        for (int kind : new int[] {5, 6, 7, 9, 10, 11}) {
            x.node(kind, 0);
            Check.due("kind " + kind, x.of(0, 3), 0);
        }
        x.node(7, 150);
        Check.due("INTEGER 150", x.of(0, 3), 0);
        x.bytes(-1, 8);
        Check.due("BYTES", x.of(0, 3), 0);
    }

    private static void stackRoom() {
        TermCodec x = new TermCodec();
        Make.chain(x, 3, 50);
        x.twice();
        x.twice();
        Make.units(x, 49);
        Check.due("199 NODES", x.look(1), 199);
        Check.due("52 TERMS", x.look(0), 52);
        Check.due("the 200th", x.bytes(0, 0), 53);
        Check.due("200 NODES", x.look(1), 200);
        Check.badState("the 201st by node", () -> x.node(10, 0));
        Check.badState("the 201st around another", () -> x.node(1, 0));
        Check.badState("the 201st of two others", () -> x.node(2, 0));
        Check.badState("the 201st by bytes", () -> x.bytes(0, 0));
        Check.due("the 201st by twice", x.twice(), false);
        x.give(0x0a, 1);
        Check.due("the 201st by read", x.read(), 6);
        Check.due("200 NODES still", x.look(1), 200);
        Check.due("more BYTES need no NODE", x.more(7, 1), true);
        x.drop();
        Check.due("a 200th by read", x.read(), 0);
        x.drop();
        Check.due("a 200th by twice", x.twice(), true);
        x.drop();
        Check.due("a 200th by node", x.node(10, 0), 53);
    }

    private static void outputRoom() {
        TermCodec x = new TermCodec();
        Make.output(x, 4095);
        x.node(10, 0);
        Check.due("the 4096th byte", x.write(), 4096);
        Check.due("it is there", x.output(4095), 10);
        Check.due("no 4097th", x.write(), NONE);
        Check.due("4096", x.look(2), 4096);
    }

    private static void inputRoom() {
        TermCodec x = new TermCodec();
        Make.input(x, 4095);
        Check.due("the 4096th byte", x.give(0x0b, 1), true);
        Check.due("no 4097th", x.give(0x0b, 1), false);
        Check.due("4096", x.look(3), 4096);
        Make.readUpTo(x, 4095);
        Check.due("read the 4096th byte", x.read(), 0);
        Check.due("it is the one that was given", x.of(0, 0), 11);
    }

    private static void roomOfEach() {
        TermCodec x = new TermCodec();
        Make.output(x, 4096);
        Check.due("room in the INPUT", x.give(1, 8), true);
        x.turn();
        Check.due("a full INPUT", x.look(3), 4096);
        x.wipe();
        x.node(10, 0);
        Check.due("room in the OUTPUT", x.write(), 1);
        Check.due("the INPUT is still full", x.give(1, 1), false);
    }

    private static void readingPlace() {
        TermCodec x = Check.having("0a 07 05 09 01");
        Check.due("AT at first", x.look(4), 0);
        x.read();
        Check.due("kind of the first", x.of(0, 0), 10);
        Check.due("AT then", x.look(4), 1);
        x.read();
        Check.due("number of the second", x.number(0), 5);
        Check.due("AT then", x.look(4), 3);
        x.read();
        Check.due("kind of the third", x.of(0, 0), 9);
        Check.due("AT at the end", x.look(4), 5);
    }

    private static String bytesOf(int kind, long arg) {
        TermCodec x = new TermCodec();
        x.node(kind, arg);
        return Check.written(x);
    }

    private static void kindBytes() {
        Check.due("ERROR", bytesOf(5, 0), "05");
        Check.due("UNIT", bytesOf(10, 0), "0a");
        Check.due("EMPTY", bytesOf(11, 0), "0b");
        TermCodec x = new TermCodec();
        Make.units(x, 1);
        String due = "0a";
        for (int kind : new int[] {1, 3, 4}) {
            x.node(kind, 0);
            due = String.format("%02x ", kind) + due;
            Check.due("kind " + kind, Check.written(x), due);
        }
    }

    private static void plainNumbers() {
        for (int b = 0; b <= 31; b++) {
            Check.due("BUILTIN " + b, bytesOf(6, b), String.format("06 %02x", b));
        }
        Check.due("TRUTH 0", bytesOf(9, 0), "09 00");
        Check.due("TRUTH 1", bytesOf(9, 1), "09 01");
    }

    private static void dataBytes() {
        TermCodec x = new TermCodec();
        x.bytes(5, 0);
        Check.due("none", Check.written(x), "08 00");
        x.bytes(0x80, 1);
        Check.due("one", Check.written(x), "08 01 80");
        x.clear();
        Make.longData(x);
        StringBuilder due = new StringBuilder("08 40");
        for (int b = 1; b <= 64; b++) {
            due.append(String.format(" %02x", b));
        }
        Check.due("64", Check.written(x), due.toString());
        Check.due("how many in all", x.look(7), 66);
    }

    private static void partsInOrder() {
        TermCodec x = new TermCodec();
        x.node(7, 1);
        x.node(7, 2);
        x.node(2, 0);
        x.bytes(3, 1);
        x.node(3, 0);
        x.node(2, 0);
        x.node(4, 0);
        Check.due("TERM", Check.written(x), "04 02 02 07 01 07 02 03 08 01 03");
        Check.due("length", x.look(7), 11);
    }

    private static void unsignedGroups() {
        for (int i = 1; i <= 200; i++) {
            String due = i <= 127 ? String.format("00 %02x", i) : String.format("00 %02x 01", i);
            Check.due("VARIABLE " + i, bytesOf(0, i), due);
        }
    }

    /** How a number is written, by arithmetic without bits: its floor in groups of 128. */
    private static String signed(long number) {
        BigInteger left = BigInteger.valueOf(number);
        BigInteger base = BigInteger.valueOf(128);
        StringBuilder text = new StringBuilder("07");
        boolean last = false;
        while (!last) {
            int group = left.mod(base).intValue();
            left = left.subtract(BigInteger.valueOf(group)).divide(base);
            last = group < 64 && left.signum() == 0 || group >= 64 && left.equals(BigInteger.ONE.negate());
            text.append(String.format(" %02x", last ? group : group + 128));
        }
        return text.toString();
    }

    private static void signedGroups() {
        Check.due("63", bytesOf(7, 63), "07 3f");
        Check.due("64", bytesOf(7, 64), "07 c0 00");
        Check.due("-64", bytesOf(7, -64), "07 40");
        Check.due("-65", bytesOf(7, -65), "07 bf 7f");
        Check.due("greatest", bytesOf(7, Long.MAX_VALUE), "07 ff ff ff ff ff ff ff ff ff 00");
        Check.due("least", bytesOf(7, Long.MIN_VALUE), "07 80 80 80 80 80 80 80 80 80 7f");
        for (int groups = 1; groups <= 9; groups++) {
            long edge = 1L << (7 * groups - 1);
            long[] around = {edge - 1, edge, edge + 1, -edge + 1, -edge, -edge - 1, 2 * edge - 1, 2 * edge, -2 * edge};
            for (long v : around) {
                Check.due("INTEGER " + v, bytesOf(7, v), signed(v));
            }
            Check.due("groups below the edge", bytesOf(7, edge - 1).length(), 2 + 3 * groups);
            Check.due("groups at the edge", bytesOf(7, edge).length(), 2 + 3 * (groups + 1));
            Check.due("groups at the edge below 0", bytesOf(7, -edge).length(), 2 + 3 * groups);
            Check.due("groups behind it", bytesOf(7, -edge - 1).length(), 2 + 3 * (groups + 1));
        }
    }

    private static void firstException() {
        TermCodec x = new TermCodec();
        Check.badArgument("node: no such arg, too few TERMS", () -> x.node(1, 1));
        Check.badArgument("node: no such arg for APPLY, too few TERMS", () -> x.node(2, -1));
        Make.chain(x, 1, 60);
        Check.badArgument("node: no such arg, too deep", () -> x.node(1, 1));
        Make.units(x, 140);
        Check.badArgument("node: no such kind, 200 NODES", () -> x.node(12, 0));
        Check.badArgument("node: kind 8, 200 NODES", () -> x.node(8, 0));
        Check.badArgument("node: no such arg, 200 NODES", () -> x.node(0, 201));
        Check.badArgument("bytes: no such n, 200 NODES", () -> x.bytes(0, 9));
        Check.badArgument("bytes: n below 0, 200 NODES", () -> x.bytes(0, -1));
    }
}
