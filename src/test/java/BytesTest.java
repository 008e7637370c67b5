/** Promises 9 to 13 and 19: what comes to the output and the input, and what is taken from them. */
public final class BytesTest {
    private static final int NONE = TermCodec.NONE;

    public static void main(String[] args) {
        writeKinds();
        writeVariables();
        writeIntegers();
        writeBehind();
        writeRoom();
        wipe();
        give();
        giveRoom();
        cut();
        turn();
        turnOfNothing();
        output();
        Check.end();
    }

    private static String bytesOf(int kind, long arg) {
        TermCodec x = new TermCodec();
        x.node(kind, arg);
        return Check.written(x);
    }

    private static void writeKinds() {
        Check.due("9: ERROR", bytesOf(5, 0), "05");
        Check.due("9: BUILTIN 0", bytesOf(6, 0), "06 00");
        Check.due("9: BUILTIN 31", bytesOf(6, 31), "06 1f");
        Check.due("9: TRUTH 0", bytesOf(9, 0), "09 00");
        Check.due("9: TRUTH 1", bytesOf(9, 1), "09 01");
        Check.due("9: UNIT", bytesOf(10, 0), "0a");
        Check.due("9: EMPTY", bytesOf(11, 0), "0b");
        TermCodec x = new TermCodec();
        x.node(5, 0);
        x.bytes(0xff00L, 2);
        x.node(2, 0);
        x.node(0, 1);
        x.node(1, 0);
        x.node(2, 0);
        x.node(4, 0);
        x.node(3, 0);
        Check.due("9: a TERM of many", Check.written(x), "03 04 02 02 05 08 02 ff 00 01 00 01");
        Check.due("9: the TERM stays", x.look(0), 1);
    }

    private static void writeVariables() {
        Check.due("9: VARIABLE 1", bytesOf(0, 1), "00 01");
        Check.due("9: VARIABLE 127", bytesOf(0, 127), "00 7f");
        Check.due("9: VARIABLE 128", bytesOf(0, 128), "00 80 01");
        Check.due("9: VARIABLE 200", bytesOf(0, 200), "00 c8 01");
    }

    private static void writeIntegers() {
        Check.due("9: 0", bytesOf(7, 0), "07 00");
        Check.due("9: -1", bytesOf(7, -1), "07 7f");
        Check.due("9: 63", bytesOf(7, 63), "07 3f");
        Check.due("9: 64", bytesOf(7, 64), "07 c0 00");
        Check.due("9: -64", bytesOf(7, -64), "07 40");
        Check.due("9: -65", bytesOf(7, -65), "07 bf 7f");
        Check.due("9: 8191", bytesOf(7, 8191), "07 ff 3f");
        Check.due("9: 8192", bytesOf(7, 8192), "07 80 c0 00");
        Check.due("9: -8192", bytesOf(7, -8192), "07 80 40");
        Check.due("9: 2^62 - 1", bytesOf(7, (1L << 62) - 1), "07 ff ff ff ff ff ff ff ff 3f");
        Check.due("9: 2^62", bytesOf(7, 1L << 62), "07 80 80 80 80 80 80 80 80 c0 00");
        Check.due("9: -2^62", bytesOf(7, -(1L << 62)), "07 80 80 80 80 80 80 80 80 40");
        Check.due("9: -2^62 - 1", bytesOf(7, -(1L << 62) - 1), "07 ff ff ff ff ff ff ff ff bf 7f");
        Check.due("9: greatest", bytesOf(7, Long.MAX_VALUE), "07 ff ff ff ff ff ff ff ff ff 00");
        Check.due("9: least", bytesOf(7, Long.MIN_VALUE), "07 80 80 80 80 80 80 80 80 80 7f");
    }

    private static void writeBehind() {
        TermCodec x = new TermCodec();
        Check.due("9: no TERM", x.write(), NONE);
        x.node(7, 1);
        Check.due("9: first", x.write(), 2);
        Check.due("9: again", x.write(), 4);
        x.node(10, 0);
        Check.due("9: the last TERM alone", x.write(), 5);
        Check.due("9: output", Check.outputOf(x), "07 01 07 01 0a");
    }

    /** 62 times 66 bytes, and 4 bytes. */
    private static TermCodec full(int lacking) {
        TermCodec x = new TermCodec();
        x.bytes(0, 8);
        for (int i = 0; i < 7; i++) {
            x.more(-1, 8);
        }
        for (int i = 0; i < 62; i++) {
            x.write();
        }
        x.node(10, 0);
        for (int i = lacking; i < 4; i++) {
            x.write();
        }
        x.drop();
        Check.due("9: bytes", x.look(2), 4096 - lacking);
        return x;
    }

    private static void writeRoom() {
        TermCodec x = full(1);
        Check.due("9: no room for 66", x.write(), NONE);
        x.node(7, 1);
        Check.due("9: no room for 2", x.write(), NONE);
        Check.due("9: bytes stay", x.look(2), 4095);
        x.node(5, 0);
        Check.due("9: room for 1", x.write(), 4096);
        Check.due("9: none at all", x.write(), NONE);
        Check.due("9: the last byte", x.output(4095), 5);
        x.wipe();
        Check.due("9: after wipe", x.write(), 1);
        TermCodec y = full(2);
        y.node(7, 1);
        Check.due("9: room for 2", y.write(), 4096);
    }

    private static void wipe() {
        TermCodec x = new TermCodec();
        x.wipe();
        Check.due("10: nothing", x.look(2), 0);
        x.node(7, 300);
        x.write();
        x.turn();
        x.wipe();
        Check.due("10: empty", x.look(2), 0);
        Check.due("10: no byte", x.output(0), NONE);
        Check.due("10: the TERM stays", x.look(0), 1);
        Check.due("10: the input stays", x.look(3), 3);
        Check.due("10: from the front", x.write(), 3);
    }

    private static void give() {
        TermCodec x = new TermCodec();
        for (int n : new int[] {0, -1, 9, Integer.MIN_VALUE, Integer.MAX_VALUE}) {
            Check.due("11: n = " + n, x.give(1, n), false);
        }
        Check.due("11: nothing came", x.look(3), 0);
        Check.due("11: three of the lowest", x.give(0x99990701090001L, 3), true);
        Check.due("11: how many", x.look(3), 3);
        Check.due("11: eight", x.give(0x0801aa0b05060307L, 8), true);
        Check.due("11: how many then", x.look(3), 11);
        Check.due("11: AT", x.look(4), 0);
        Check.due("11: one", x.give(0xff7fL, 1), true);
        // 09 00 is whole, 01 08 01 aa is, too, and so on up to 07 7f.
        for (int i = 0; i < 5; i++) {
            Check.due("11: read " + i, x.read(), 0);
        }
        Check.due("11: in their order", Check.stackOf(x), "06 03 | 05 | 0b | 01 08 01 aa | 09 00");
        int at = x.look(4);
        x.give(0, 1);
        Check.due("11: AT stays", x.look(4), at);
        Check.due("11: the lowest byte", x.read(), 0);
        Check.due("11: its number", x.number(0), -1);
    }

    private static void giveRoom() {
        TermCodec x = new TermCodec();
        for (int i = 0; i < 511; i++) {
            if (!x.give(i, 8)) {
                Check.wrong("11: no room at " + i);
            }
        }
        x = new TermCodec();
        x.node(10, 0);
        for (int i = 0; i < 59; i++) {
            x.node(3, 0);
        }
        for (int i = 0; i < 68; i++) {
            x.write();
        }
        x.turn();
        Check.due("11: 4080", x.look(3), 4080);
        Check.due("11: 4088", x.give(1, 8), true);
        Check.due("11: 4091", x.give(1, 3), true);
        Check.due("11: no room for 6", x.give(1, 6), false);
        Check.due("11: still 4091", x.look(3), 4091);
        Check.due("11: 4096", x.give(1, 5), true);
        Check.due("11: no room for 1", x.give(1, 1), false);
        Check.due("11: still 4096", x.look(3), 4096);
        Check.due("11: read", x.read(), 0);
        Check.due("11: what is read makes no room", x.give(1, 1), false);
    }

    private static void cut() {
        TermCodec x = new TermCodec();
        Check.due("12: 0 of 0", x.cut(0), true);
        Check.due("12: 1 of 0", x.cut(1), false);
        Check.give(x, "0a 07 05 0b");
        x.read();
        x.read();
        Check.due("12: AT before", x.look(4), 3);
        Check.due("12: below 0", x.cut(-1), false);
        Check.due("12: least", x.cut(Integer.MIN_VALUE), false);
        Check.due("12: too many", x.cut(5), false);
        Check.due("12: greatest", x.cut(Integer.MAX_VALUE), false);
        Check.due("12: AT stays", x.look(4), 3);
        Check.due("12: bytes stay", x.look(3), 4);
        Check.due("12: all of them", x.cut(4), true);
        Check.due("12: AT is 0", x.look(4), 0);
        Check.due("12: all are there", x.look(3), 4);
        Check.due("12: two", x.cut(2), true);
        Check.due("12: two are there", x.look(3), 2);
        x.clear();
        Check.due("12: the first", x.read(), 0);
        Check.due("12: is UNIT", x.of(0, 0), 10);
        Check.due("12: the second is not whole", x.read(), 1);
        Check.due("12: at its end", x.look(6), 2);
        x.give(9, 1);
        Check.due("12: a byte behind", x.read(), 0);
        Check.due("12: it is this one", x.number(0), 9);
        Check.due("12: cut to none", x.cut(0), true);
        Check.due("12: none to read", x.read(), NONE);
    }

    private static void turn() {
        TermCodec x = new TermCodec();
        Check.give(x, "0b 0b 0b 0b 0b");
        x.read();
        x.node(7, 1000);
        x.write();
        x.turn();
        Check.due("13: input", x.look(3), 3);
        Check.due("13: AT", x.look(4), 0);
        Check.due("13: output stays", Check.outputOf(x), "07 e8 07");
        Check.due("13: read", x.read(), 0);
        Check.due("13: same", x.same(), true);
        Check.due("13: AT behind", x.look(4), 3);
        x.write();
        Check.due("13: the input is its own", x.look(3), 3);
        x.give(0x0a, 1);
        Check.due("13: the output is its own", x.look(2), 6);
        Check.due("13: the output's bytes are, too", x.output(3), 7);
        Check.due("13: what was given is read", x.read(), 0);
        Check.due("13: it is UNIT", x.of(0, 0), 10);
        x.turn();
        Check.due("13: again", x.look(3), 6);
        Check.due("13: AT again", x.look(4), 0);
        x.wipe();
        Check.due("13: read after wipe", x.read(), 0);
        Check.due("13: its number", x.number(0), 1000);
    }

    private static void turnOfNothing() {
        TermCodec x = Check.having("0b 0b");
        x.read();
        x.turn();
        Check.due("13: no input", x.look(3), 0);
        Check.due("13: AT of none", x.look(4), 0);
        Check.due("13: read of none", x.read(), NONE);
    }

    private static void output() {
        TermCodec x = new TermCodec();
        Check.due("19: none", x.output(0), NONE);
        x.bytes(0xff80L, 2);
        x.write();
        Check.due("19: 0", x.output(0), 8);
        Check.due("19: 1", x.output(1), 2);
        Check.due("19: 2", x.output(2), 255);
        Check.due("19: 3", x.output(3), 128);
        for (int k : new int[] {4, -1, 4095, 4096, Integer.MIN_VALUE, Integer.MAX_VALUE}) {
            Check.due("19: " + k, x.output(k), NONE);
        }
    }
}
