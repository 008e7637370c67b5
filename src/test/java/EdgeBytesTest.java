/** Promises 9 to 13 and 19: each sentence that names an edge, by itself. */
public final class EdgeBytesTest {
    private static final int NONE = TermCodec.NONE;
    private static final int FULL = 4096;
    private static final int[] NOT_TO_8 = {0, -1, 9, 64, 256, 257, -255, Integer.MIN_VALUE, Integer.MIN_VALUE + 1,
        Integer.MAX_VALUE};

    public static void main(String[] args) {
        Check.sentence("9: The last TERM's bytes come to the OUTPUT, behind those it has", EdgeBytesTest::behind);
        Check.sentence("9: how many these are then", EdgeBytesTest::writeAnswers);
        Check.sentence("9: NONE if there is no TERM", EdgeBytesTest::writeOfNone);
        Check.sentence("9: or no room for all", EdgeBytesTest::noRoomForAll);
        Check.sentence("10: The OUTPUT is empty", EdgeBytesTest::wiped);
        Check.sentence("11: n bytes of v, 1 .. 8, the highest first (of its lowest n), come to the INPUT: true",
            EdgeBytesTest::given);
        Check.sentence("11: false if n is not as said", EdgeBytesTest::giveNotSo);
        Check.sentence("11: or there is no room", EdgeBytesTest::noRoomToGive);
        Check.sentence("12: The INPUT has its first n bytes alone", EdgeBytesTest::firstAlone);
        Check.sentence("12: and AT is 0: true", EdgeBytesTest::cutPlace);
        Check.sentence("12: false if it has fewer", EdgeBytesTest::cutFewer);
        Check.sentence("12: or n is below 0", EdgeBytesTest::cutBelow);
        Check.sentence("13: The OUTPUT is the INPUT, too", EdgeBytesTest::turned);
        Check.sentence("13: and AT is 0", EdgeBytesTest::turnPlace);
        Check.sentence("19: Byte k of the OUTPUT", EdgeBytesTest::outputByte);
        Check.sentence("19: NONE if there is none", EdgeBytesTest::noOutputByte);
        Check.end();
    }

    private static void behind() {
        TermCodec x = new TermCodec();
        x.node(5, 0);
        x.node(7, 64);
        x.write();
        Check.due("the last alone", Check.outputOf(x), "07 c0 00");
        x.drop();
        x.write();
        Check.due("the other behind it", Check.outputOf(x), "07 c0 00 05");
        x.write();
        Check.due("once more", Check.outputOf(x), "07 c0 00 05 05");
        Check.due("the TERM stays", x.look(0), 1);
    }

    private static void writeAnswers() {
        TermCodec x = new TermCodec();
        x.bytes(0, 0);
        Check.due("2", x.write(), 2);
        x.node(0, 128);
        Check.due("3 more", x.write(), 5);
        x.node(2, 0);
        Check.due("6 more", x.write(), 11);
        Make.longData(x);
        Check.due("66 more", x.write(), 77);
        Check.due("OUTPUT", x.look(2), 77);
    }

    private static void writeOfNone() {
        TermCodec x = new TermCodec();
        Check.due("a new object", x.write(), NONE);
        x.node(10, 0);
        x.write();
        x.drop();
        Check.due("a TERM that went", x.write(), NONE);
        Check.due("OUTPUT", x.look(2), 1);
    }

    /** What has just room, and what has a byte too many, with one byte, two, some and many. */
    private static void noRoomForAll() {
        for (int count = 0; count <= 64; count += 8) {
            TermCodec x = new TermCodec();
            Make.output(x, FULL - count - 2);
            Make.data(x, count);
            Check.due("just room for " + (count + 2), x.write(), FULL);
            Check.due("its last byte", x.output(FULL - 1), count);
            TermCodec y = new TermCodec();
            Make.output(y, FULL - count - 1);
            Make.data(y, count);
            Check.due("no room for " + (count + 2), y.write(), NONE);
            Check.due("nothing of it came", y.look(2), FULL - count - 1);
            Check.due("not even a byte", y.output(FULL - count - 1), NONE);
        }
        TermCodec x = new TermCodec();
        Make.output(x, FULL);
        x.node(10, 0);
        Check.due("no room at all", x.write(), NONE);
        x.wipe();
        Make.longData(x);
        for (int i = 0; i < 6; i++) {
            x.twice();
            x.node(2, 0);
        }
        Check.due("a TERM that is too long by itself", x.look(7), 64 * 66 + 63);
        Check.due("for the empty OUTPUT, too", x.write(), NONE);
        Check.due("OUTPUT", x.look(2), 0);
        x.split();
        Check.due("its half is not", x.write(), 32 * 66 + 31);
    }

    private static void wiped() {
        TermCodec x = new TermCodec();
        x.wipe();
        Check.due("none", x.look(2), 0);
        Make.output(x, FULL);
        Check.due("full", x.look(2), FULL);
        x.wipe();
        Check.due("empty", x.look(2), 0);
        Check.due("byte 0", x.output(0), NONE);
        Check.due("byte 4095", x.output(FULL - 1), NONE);
        x.node(9, 1);
        Check.due("room again", x.write(), 2);
        Check.due("bytes", Check.outputOf(x), "09 01");
        Make.output(x, FULL - 2);
        Check.due("room for all", x.look(2), FULL);
    }

    /** What was given is seen as the BYTES that are read from it. */
    private static void given() {
        String[] digit = {"f1", "e2", "d3", "c4", "b5", "a6", "97", "88"};
        for (int n = 1; n <= 8; n++) {
            TermCodec x = new TermCodec();
            Check.due("a byte", x.give(0x7766554433221108L, 1), true);
            Check.due("how many", x.look(3), 1);
            x.give(n, 1);
            Check.due(n + " bytes", x.give(0xf1e2d3c4b5a69788L, n), true);
            Check.due("how many", x.look(3), 2 + n);
            Check.due("AT", x.look(4), 0);
            Check.due("read", x.read(), 0);
            StringBuilder due = new StringBuilder("08 0" + n);
            for (int i = 8 - n; i < 8; i++) {
                due.append(' ').append(digit[i]);
            }
            Check.due("bytes", Check.written(x), due.toString());
        }
        TermCodec x = new TermCodec();
        x.give(0x0a0b, 2);
        x.read();
        x.give(0x05, 1);
        Check.due("AT stays", x.look(4), 1);
        x.read();
        x.read();
        Check.due("behind those it has", Check.stackOf(x), "05 | 0b | 0a");
    }

    private static void giveNotSo() {
        TermCodec x = new TermCodec();
        for (int n : NOT_TO_8) {
            Check.due("n = " + n, x.give(0x0a, n), false);
        }
        Check.due("INPUT", x.look(3), 0);
        Check.due("n = 1", x.give(0x0a, 1), true);
        Check.due("n = 8", x.give(0x0a, 8), true);
    }

    private static void noRoomToGive() {
        for (int room = 0; room <= 8; room++) {
            for (int n = 1; n <= 8; n++) {
                TermCodec x = new TermCodec();
                Make.input(x, FULL - room);
                Check.due(n + " with room for " + room, x.give(-1, n), n <= room);
                Check.due("INPUT", x.look(3), n <= room ? FULL - room + n : FULL - room);
            }
        }
        TermCodec x = new TermCodec();
        Make.input(x, FULL);
        x.read();
        Check.due("what was read makes no room", x.give(1, 1), false);
        x.cut(FULL - 1);
        Check.due("what was cut does", x.give(1, 1), true);
    }

    private static void firstAlone() {
        for (int n = 0; n <= 5; n++) {
            TermCodec x = Check.having("05 0a 0b 05 0a");
            Check.due("cut(" + n + ")", x.cut(n), true);
            Check.due("INPUT", x.look(3), n);
            for (int i = 0; i < n; i++) {
                Check.due("read", x.read(), 0);
            }
            Check.due("the end", x.read(), NONE);
            String all = "0a | 05 | 0b | 0a | 05";
            Check.due("the first " + n, Check.stackOf(x), n == 0 ? "" : all.substring(all.length() - 5 * n + 3));
        }
        TermCodec x = new TermCodec();
        Check.due("0 of 0", x.cut(0), true);
        Make.input(x, FULL);
        Check.due("4096 of 4096", x.cut(FULL), true);
        Check.due("INPUT", x.look(3), FULL);
        Check.due("4095 of 4096", x.cut(FULL - 1), true);
        Check.due("INPUT", x.look(3), FULL - 1);
        x.cut(1);
        x.give(0x01aa, 2);
        Check.due("what was cut is gone", x.read(), 0);
        Check.due("what came instead", Check.written(x), "08 01 aa");
    }

    private static void cutPlace() {
        TermCodec x = Check.having("0a 0b 05");
        for (int n : new int[] {3, 2, 2, 1, 0}) {
            x.read();
            Check.due("cut(" + n + ")", x.cut(n), true);
            Check.due("AT", x.look(4), 0);
        }
        Check.due("the output stays", x.look(2), 0);
        Check.due("TERMS stay", x.look(0), 5);
    }

    private static void cutFewer() {
        TermCodec x = new TermCodec();
        Check.due("1 of 0", x.cut(1), false);
        Check.give(x, "0a 0b 05");
        x.read();
        for (int n : new int[] {4, 5, FULL, FULL + 1, Integer.MAX_VALUE}) {
            Check.due("cut(" + n + ")", x.cut(n), false);
        }
        Check.due("INPUT", x.look(3), 3);
        Check.due("AT", x.look(4), 1);
        x.cut(2);
        Check.due("what was cut does not come again", x.cut(3), false);
        TermCodec y = new TermCodec();
        Make.input(y, FULL);
        Check.due("4097 of 4096", y.cut(FULL + 1), false);
    }

    private static void cutBelow() {
        TermCodec x = Check.having("0a 0b 05");
        x.read();
        for (int n : new int[] {-1, -3, -FULL, Integer.MIN_VALUE, Integer.MIN_VALUE + 1}) {
            Check.due("cut(" + n + ")", x.cut(n), false);
        }
        Check.due("INPUT", x.look(3), 3);
        Check.due("AT", x.look(4), 1);
        Check.due("below 0 of none", new TermCodec().cut(-1), false);
    }

    private static void turned() {
        TermCodec x = Check.having("0b 0b 0b 0b 0b 0b");
        x.node(7, -65);
        x.write();
        x.turn();
        Check.due("a longer INPUT before", x.look(3), 3);
        Check.due("the OUTPUT stays", Check.outputOf(x), "07 bf 7f");
        x.clear();
        Check.due("read", x.read(), 0);
        Check.due("number", x.number(0), -65);
        Check.due("the end", x.read(), NONE);
        x.write();
        Check.due("write leaves the INPUT", x.look(3), 3);
        x.give(0x0b, 1);
        Check.due("give leaves the OUTPUT", Check.outputOf(x), "07 bf 7f 07 bf 7f");
        x.cut(2);
        Check.due("cut leaves the OUTPUT", x.look(2), 6);
        x.wipe();
        Check.due("wipe leaves the INPUT", x.look(3), 2);
        x.give(0x01, 1);
        Check.due("its bytes, too", x.read(), 0);
        Check.due("what was given behind them", x.number(0), 191);
        x.turn();
        Check.due("an empty OUTPUT", x.look(3), 0);
        Check.due("nothing to read", x.read(), NONE);
        Make.output(x, FULL);
        x.turn();
        Check.due("a full OUTPUT", x.look(3), FULL);
        Check.due("no room behind it", x.give(1, 1), false);
        Make.readUpTo(x, FULL);
        Check.due("its last TERM", x.byteAt(0, x.of(0, 5) - 1), x.output(FULL - 1));
    }

    private static void turnPlace() {
        TermCodec x = Check.having("0b 0b 0b");
        x.read();
        x.read();
        x.node(5, 0);
        x.write();
        x.turn();
        Check.due("AT of a shorter INPUT", x.look(4), 0);
        x.read();
        Check.due("kind", x.of(0, 0), 5);
        x.turn();
        Check.due("AT once more", x.look(4), 0);
        Check.due("read once more", x.read(), 0);
        x.wipe();
        x.turn();
        Check.due("AT of none", x.look(4), 0);
    }

    private static void outputByte() {
        TermCodec x = new TermCodec();
        x.bytes(0x007f80ff, 4);
        x.write();
        int[] due = {8, 4, 0, 127, 128, 255};
        for (int k = 0; k < due.length; k++) {
            Check.due("byte " + k, x.output(k), due[k]);
        }
        x.wipe();
        Make.output(x, FULL);
        for (int k : new int[] {0, 2, 65, 66, 68, 62 * 66, FULL - 2, FULL - 1}) {
            int place = k % 66;
            int want = place == 0 ? 8 : place > 1 ? place - 1 : k > 62 * 66 ? 2 : 64;
            Check.due("byte " + k + " of 4096", x.output(k), want);
        }
    }

    private static void noOutputByte() {
        TermCodec x = new TermCodec();
        int[] none = {-1, Integer.MIN_VALUE, Integer.MAX_VALUE, FULL, FULL + 1, -FULL};
        for (int k : none) {
            Check.due("byte " + k + " of none", x.output(k), NONE);
        }
        Check.due("byte 0 of none", x.output(0), NONE);
        x.node(9, 1);
        x.write();
        Check.due("byte 2 of 2", x.output(2), NONE);
        for (int k : none) {
            Check.due("byte " + k + " of 2", x.output(k), NONE);
        }
        Check.give(x, "0a 0a 0a 0a");
        Check.due("the INPUT's bytes are none", x.output(2), NONE);
        Make.output(x, FULL - 2);
        Check.due("byte 4095 of 4096", x.output(FULL - 1) == NONE, false);
        for (int k : none) {
            Check.due("byte " + k + " of 4096", x.output(k), NONE);
        }
        x.wipe();
        Check.due("byte 0 behind wipe", x.output(0), NONE);
    }
}
