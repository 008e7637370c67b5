/** Reading, and promise 14: each sentence that names an edge, a fault, its place or its order, by itself. */
public final class EdgeReadTest {
    private static final int NONE = TermCodec.NONE;
    private static final String FOUR_OPEN = "80 80 80 80";
    private static final String NINE_OPEN = "80 80 80 80 80 80 80 80 80";

    public static void main(String[] args) {
        Check.sentence("written in one way alone, and read again, whatever bytes there are", EdgeReadTest::anyBytes);
        Check.sentence("all variables that are read are bound", EdgeReadTest::allBound);
        Check.sentence("READING a TERM goes from byte to byte; the first FAULT that is seen ends it",
            EdgeReadTest::firstFault);
        Check.sentence("1: the INPUT ends where a byte is to be read, for its kind", EdgeReadTest::endForKind);
        Check.sentence("the place is how many bytes it has", EdgeReadTest::placeOfEnd);
        Check.sentence("3: its kind is none (its byte)", EdgeReadTest::noKind);
        Check.sentence("5: the DEPTH would be above 60", EdgeReadTest::tooDeep);
        Check.sentence("6: the STACK would have more than 200 NODES", EdgeReadTest::noRoom);
        Check.sentence("the place of both is that byte, too", EdgeReadTest::placeOfNode);
        Check.sentence("Of each NODE: 1 .. 3 .. 5 .. 6 .. then for its number", EdgeReadTest::orderOfNode);
        Check.sentence("then for its number: 1", EdgeReadTest::endForNumber);
        Check.sentence("2: U has a fifth byte with 128 in it, or is above 2147483647", EdgeReadTest::fifthByte);
        Check.sentence("2: S has a tenth one with 128 in it, or is no long", EdgeReadTest::tenthByte);
        Check.sentence("2: [U] is not as few bytes as can be", EdgeReadTest::unsignedFewest);
        Check.sentence("2: [S] is not as few bytes as can be", EdgeReadTest::signedFewest);
        Check.sentence("its last byte, or that fifth, tenth one", EdgeReadTest::placeOfForm);
        Check.sentence("3: a number that can't be there (its last byte)", EdgeReadTest::noSuchNumber);
        Check.sentence("4: a VARIABLE that is not bound within the TERM (the byte of its kind)", EdgeReadTest::unbound);
        Check.sentence("1 for a byte of BYTES", EdgeReadTest::endForData);
        Check.sentence("for its number: 1 .. 2 .. 3 .. 4 .. 1 for a byte of BYTES", EdgeReadTest::orderOfNumber);
        Check.sentence("14: 0, it comes to the STACK", EdgeReadTest::comesToStack);
        Check.sentence("14: AT is behind it", EdgeReadTest::atBehind);
        Check.sentence("14: else the fault", EdgeReadTest::elseFault);
        Check.sentence("14: NONE if AT is at the INPUT's end", EdgeReadTest::atTheEnd);
        Check.sentence("14: the fault stays as it was then", EdgeReadTest::faultStays);
        Check.end();
    }

    private static void fault(TermCodec x, String what, int number, int place) {
        Check.due("read " + what, x.read(), number);
        Check.due("fault of " + what, x.look(5), number);
        Check.due("place of " + what, x.look(6), place);
    }

    private static void bad(String hex, int number, int place) {
        fault(Check.having(hex), hex, number, place);
    }

    private static void good(String hex) {
        TermCodec x = Check.having(hex);
        int size = x.look(3);
        fault(x, hex, 0, NONE);
        Check.due("AT behind " + hex, x.look(4), size);
    }

    private static String hex(int b) {
        return String.format("%02x", b);
    }

    /** Each pair of bytes, with a third one that is a kind or a number: what is read is written as it was. */
    private static void anyBytes() {
        TermCodec x = new TermCodec();
        int used = 0;
        for (int pair = 0; pair < 1 << 16; pair++) {
            if (used == 50) {
                x = new TermCodec();
                used = 0;
            }
            used++;
            x.clear();
            x.wipe();
            x.cut(0);
            x.give(pair << 8 | 1, 3);
            int fault = x.read();
            if (fault == 0) {
                sameAsGiven(x, pair << 8 | 1);
            } else {
                Check.due("a fault of " + hex(pair >> 8) + hex(pair & 255), fault >= 1 && fault <= 4, true);
            }
        }
    }

    private static void sameAsGiven(TermCodec x, int given) {
        int size = x.write();
        Check.due("how many bytes of " + Integer.toHexString(given), size, x.look(4));
        for (int k = 0; k < size && k < 3; k++) {
            Check.due("byte " + k + " of " + Integer.toHexString(given), x.output(k), given >> (16 - 8 * k) & 255);
        }
    }

    private static void allBound() {
        String[] all = {"01 00 01", "01 01 00 02", "01 02 00 01 01 00 02", "02 01 00 01 01 03 04 00 01", "0a",
            "01".repeat(59) + "00 3b"};
        for (String hex : all) {
            TermCodec x = Check.having(hex);
            Check.due("read " + hex, x.read(), 0);
            Check.due("CLOSED: " + hex, x.of(0, 3), 0);
        }
        for (int i = 1; i <= 200; i++) {
            TermCodec x = new TermCodec();
            x.node(0, i);
            x.write();
            x.turn();
            Check.due("VARIABLE " + i + " alone", x.read(), 4);
        }
    }

    private static void firstFault() {
        bad("02 06 20 0c", 3, 2);
        bad("02 00 01 0c", 4, 1);
        bad("02 07 80 00 06 20", 2, 3);
        bad("02 0c 00 01", 3, 1);
        bad("02 08 41 07", 3, 2);
        bad("02 0a 0c", 3, 2);
        bad("02 0a 00", 1, 3);
        bad("02".repeat(59) + "0a 00 01" + "02 0a".repeat(2), 4, 60);
    }

    private static void endForKind() {
        for (String open : new String[] {"01", "02", "03", "04", "02 0a", "02 02 0a 0b", "01 03 04", "02 07 00",
            "02 08 01 00"}) {
            TermCodec x = Check.having(open);
            Check.due("read " + open, x.read(), 1);
            x.give(0x0a, 1);
            int due = open.equals("02") ? 1 : 0;
            Check.due("read " + open + " with a UNIT behind", x.read(), due);
        }
    }

    private static void placeOfEnd() {
        bad("01", 1, 1);
        bad("02 0a", 1, 2);
        bad("01 00", 1, 2);
        bad("08 05 01 02", 1, 4);
        bad("07" + NINE_OPEN, 1, 10);
        TermCodec x = Check.having("0a 0b 03");
        x.read();
        x.read();
        fault(x, "the third of three", 1, 3);
        x.give(0x0304, 2);
        fault(x, "it with two bytes more", 1, 5);
        x.cut(3);
        x.read();
        x.read();
        fault(x, "it without them", 1, 3);
        TermCodec y = new TermCodec();
        Make.input(y, 4095);
        y.give(0x03, 1);
        Make.readUpTo(y, 4095);
        fault(y, "the end of a full INPUT", 1, 4096);
    }

    private static void noKind() {
        for (int kind = 12; kind <= 255; kind++) {
            bad(hex(kind), 3, 0);
            bad("02 0a" + hex(kind) + "0a", 3, 2);
        }
        for (int kind = 0; kind <= 11; kind++) {
            TermCodec x = Check.having(hex(kind));
            x.read();
            Check.due("kind " + kind + " is one", x.look(5) == 3, false);
        }
    }

    private static void tooDeep() {
        for (String kind : new String[] {"01", "03", "04"}) {
            good(kind.repeat(59) + "0a");
            bad(kind.repeat(60) + "0a", 5, 60);
        }
        // APPLYS that go deeper by the function, and by the argument.
        good("02".repeat(59) + "0a" + "0b".repeat(59));
        bad("02".repeat(60) + "0a", 5, 60);
        good("02 0a".repeat(59) + "0b");
        bad("02 0a".repeat(60) + "0b", 5, 119);
        // An argument has the level of its function, whatever that one was of.
        good("02" + "03".repeat(58) + "0a" + "03".repeat(58) + "0a");
        bad("02" + "03".repeat(58) + "0a" + "03".repeat(59) + "0a", 5, 119);
        // Other TERMS do not count.
        TermCodec x = Check.having("03".repeat(59) + "0a" + "03".repeat(60) + "0a");
        Make.chain(x, 1, 60);
        fault(x, "DEPTH 60 behind DEPTH 60", 0, NONE);
        fault(x, "DEPTH 61 behind DEPTH 60", 5, 120);
    }

    private static void noRoom() {
        good(Make.broad(199));
        good("03" + Make.broad(199));
        bad(Make.broad(201), 6, 200);
        bad("01 03" + Make.broad(199), 6, 200);
        for (int units = 197; units <= 200; units++) {
            TermCodec x = Make.readingBehind(units, "02 0a 0b");
            int due = units == 197 ? 0 : 6;
            Check.due("three NODES behind " + units, x.read(), due);
            Check.due("NODES then", x.look(1), units == 197 ? 200 : units);
        }
        TermCodec x = Make.readingBehind(199, "0a");
        Check.due("one behind 199", x.read(), 0);
        TermCodec y = Make.readingBehind(200, "0a");
        Check.due("one behind 200", y.read(), 6);
    }

    private static void placeOfNode() {
        bad("03".repeat(60) + "07 05", 5, 60);
        bad("03".repeat(60) + "08 02 01 02", 5, 60);
        fault(Make.readingBehind(200, "07 05"), "INTEGER behind 200", 6, 0);
        fault(Make.readingBehind(199, "02 0a 0b"), "APPLY behind 199", 6, 1);
        fault(Make.readingBehind(198, "02 07 05 0b"), "APPLY behind 198", 6, 3);
        TermCodec x = Make.readingBehind(199, "0a 0b 0b");
        x.read();
        fault(x, "EMPTY, the second of the INPUT", 6, 1);
        TermCodec y = Check.having("0a" + "03".repeat(60) + "0a");
        y.read();
        fault(y, "the deep one, the second of the INPUT", 5, 61);
    }

    private static void orderOfNode() {
        bad("03".repeat(60), 1, 60);
        bad("03".repeat(60) + "0c", 3, 60);
        bad("03".repeat(60) + "06 20", 5, 60);
        bad("03".repeat(60) + "00", 5, 60);
        fault(Make.readingBehind(199, "03"), "the end where there is no room", 1, 1);
        fault(Make.readingBehind(200, "0c"), "no kind where there is no room", 3, 0);
        fault(Make.readingBehind(199, "03 ff"), "no kind where there is no room", 3, 1);
        fault(Make.readingBehind(140, "03".repeat(60) + "0a"), "too deep and no room", 5, 60);
        fault(Make.readingBehind(140, "03".repeat(60) + "0c"), "no kind, too deep and no room", 3, 60);
        fault(Make.readingBehind(140, "03".repeat(60)), "the end, too deep and no room", 1, 60);
        fault(Make.readingBehind(141, "03".repeat(60) + "0a"), "no room, and too deep behind it", 6, 59);
        fault(Make.readingBehind(200, "06"), "no room, and the end", 6, 0);
        fault(Make.readingBehind(200, "06 20"), "no room, and no such number", 6, 0);
        fault(Make.readingBehind(200, "07 80 00"), "no room, and too many bytes", 6, 0);
        fault(Make.readingBehind(200, "00 01"), "no room, and not bound", 6, 0);
        fault(Make.readingBehind(200, "08 01"), "no room, and the end in BYTES", 6, 0);
    }

    private static void endForNumber() {
        bad("06", 1, 1);
        bad("09", 1, 1);
        bad("08", 1, 1);
        bad("00", 1, 1);
        bad("07", 1, 1);
        bad("01 00", 1, 2);
        String open = "";
        for (int n = 1; n <= 4; n++) {
            open = open + "81";
            bad("01 00" + open, 1, 2 + n);
        }
        open = "";
        for (int n = 1; n <= 9; n++) {
            open = open + "81";
            bad("07" + open, 1, 1 + n);
        }
    }

    /** The fifth byte has the bits from 2^28 on: 1 to 7 are within 2147483647. */
    private static void fifthByte() {
        for (int b = 0; b <= 255; b++) {
            int due = b >= 1 && b <= 7 ? 3 : 2;
            bad("01 00" + FOUR_OPEN + hex(b) + "0a", due, 6);
            bad("01 00 ff ff ff ff" + hex(b) + "01 0a", due, 6);
        }
        bad("01 00 ff ff ff ff 07", 3, 6);
        bad("01 00" + FOUR_OPEN + "08", 2, 6);
        bad("01 00 81 80 80 80 10", 2, 6);
        bad("01 00 81 80 80 80 80 80 00", 2, 6);
    }

    /** Of the tenth byte 0 and 127 are longs: as few as can be if the ninth's highest bit is another one. */
    private static void tenthByte() {
        for (int b = 0; b <= 255; b++) {
            tenth("07" + NINE_OPEN + hex(b), b == 127);
            tenth("07 80 80 80 80 80 80 80 80 c0" + hex(b), b == 0);
            tenth("07 ff ff ff ff ff ff ff ff ff" + hex(b), b == 0);
            tenth("07 ff ff ff ff ff ff ff ff bf" + hex(b), b == 127);
        }
        bad("07" + NINE_OPEN + "80 00", 2, 10);
        bad("07" + NINE_OPEN + "ff 7f", 2, 10);
    }

    private static void tenth(String hex, boolean isGood) {
        if (isGood) {
            good(hex);
        } else {
            bad(hex, 2, 10);
        }
    }

    /** Each number of two bytes within one LAMBDA, and a 0 as the last one of three to five. */
    private static void unsignedFewest() {
        for (int low = 128; low <= 255; low++) {
            for (int high : new int[] {0, 1, 2, 127}) {
                int number = low - 128 + 128 * high;
                int due = high == 0 ? 2 : number > 200 ? 3 : 4;
                bad("01 00" + hex(low) + hex(high), due, due == 4 ? 1 : 3);
            }
        }
        bad("01 00 80 80 00", 2, 4);
        bad("01 00 ff ff 00", 2, 4);
        bad("01 00 80 80 80 00", 2, 5);
        bad("01 00 ff ff ff 00", 2, 5);
        bad("01 00 80 80 80 80 00", 2, 6);
        bad("01 00 ff ff ff ff 00", 2, 6);
        // As few as can be, but no VARIABLE.
        bad("01 00 80 80 01", 3, 4);
        bad("01 00 80 80 80 01", 3, 5);
        bad("01 00 80 80 80 80 01", 3, 6);
        good("01 00 01");
    }

    /** A last group that is the sign alone is one too many where the group below it shows that sign. */
    private static void signedFewest() {
        for (int groups = 1; groups <= 9; groups++) {
            String low = "81".repeat(groups - 1);
            for (int b = 0; b <= 127; b++) {
                // 81 shows no sign of its own below 0: a 0 behind it is too many, any other is needed.
                signedWith("07" + low + hex(b), groups == 1 || b != 0, groups);
                String open = "07" + low + hex(b | 128);
                boolean negative = b >= 64;
                signedWith(open + "00", negative, groups + 1);
                signedWith(open + "7f", !negative, groups + 1);
            }
        }
    }

    private static void signedWith(String hex, boolean isGood, int groups) {
        if (isGood) {
            good(hex);
        } else {
            bad(hex, 2, groups);
        }
    }

    private static void placeOfForm() {
        bad("01 00 81 00 0a 0a", 2, 3);
        bad("02 0a 00 ff ff 00 0a", 2, 5);
        bad("02 0a 00 ff ff ff ff ff ff ff", 2, 7);
        bad("02 0a 00 ff ff ff ff 08 0a", 2, 7);
        bad("02 0a 07 80 00 0a", 2, 4);
        bad("02 0a 07 ff ff 7f 0a", 2, 5);
        bad("02 0a 07" + NINE_OPEN + "81 81 81", 2, 12);
        bad("02 0a 07" + NINE_OPEN + "01 0a", 2, 12);
        TermCodec x = Check.having("0a 07 80 00");
        x.read();
        fault(x, "the second of the INPUT", 2, 3);
    }

    private static void noSuchNumber() {
        for (int b = 32; b <= 255; b++) {
            bad("06" + hex(b), 3, 1);
        }
        for (int b = 2; b <= 255; b++) {
            bad("09" + hex(b), 3, 1);
        }
        for (int b = 65; b <= 255; b++) {
            bad("08" + hex(b), 3, 1);
        }
        bad("01 00 00", 3, 2);
        bad("01 00 c9 01", 3, 3);
        bad("01 00 ff 7f", 3, 3);
        bad("01 00 ff ff 7f", 3, 4);
        bad("01 00 ff ff ff 7f", 3, 5);
        bad("01 00 ff ff ff ff 07", 3, 6);
        good("06 1f");
        good("09 01");
        good("08 00");
        good("08 40" + "00".repeat(64));
    }

    private static void unbound() {
        bad("00 01", 4, 0);
        bad("01 00 02", 4, 1);
        bad("01 00 c8 01", 4, 1);
        bad("01 00 80 01", 4, 1);
        bad("02 01 00 01 00 01", 4, 4);
        bad("03 04 00 7f 0a", 4, 2);
        TermCodec x = Check.having("01 00 01 01 00 02");
        x.node(0, 1);
        x.node(1, 0);
        x.read();
        fault(x, "the second of the INPUT", 4, 4);
        Check.due("AT stays before it", x.look(4), 3);
    }

    private static void endForData() {
        for (int count = 1; count <= 64; count++) {
            String all = "ff".repeat(count);
            good("08" + hex(count) + all);
            bad("08" + hex(count) + all.substring(2), 1, count + 1);
            bad("08" + hex(count), 1, 2);
        }
        bad("02 08 02 01", 1, 4);
    }

    private static void orderOfNumber() {
        bad("00 81", 1, 2);
        bad("00 80 00", 2, 2);
        bad("00 00", 3, 1);
        bad("00 c9 01", 3, 2);
        bad("00" + FOUR_OPEN + "08", 2, 5);
        bad("00" + FOUR_OPEN + "01", 3, 5);
        bad("00 c8 01", 4, 0);
        bad("08 41", 3, 1);
        bad("08 41 00", 3, 1);
        bad("08 40", 1, 2);
    }

    private static void comesToStack() {
        TermCodec x = Check.having("02 01 00 01 08 03 01 80 ff 07 bf 7f");
        x.node(5, 0);
        Check.due("read", x.read(), 0);
        Check.due("TERMS", x.look(0), 2);
        Check.due("NODES", x.look(1), 5);
        Check.due("bytes", x.look(7), 9);
        Check.due("DEPTH", x.of(0, 2), 3);
        Check.due("LACKS", x.of(0, 3), 0);
        Check.due("LACKS of the VARIABLE", x.of(2, 3), 1);
        Check.due("around the VARIABLE", x.of(2, 4), 1);
        Check.due("a byte", x.byteAt(3, 2), 255);
        Check.due("read another", x.read(), 0);
        Check.due("its number", x.number(0), -65);
        Check.due("all", Check.stackOf(x), "07 bf 7f | 02 01 00 01 08 03 01 80 ff | 05");
    }

    private static void atBehind() {
        TermCodec x = Check.having("0a 06 05 01 00 01 08 00 0b");
        int[] due = {1, 3, 6, 8, 9};
        for (int at : due) {
            Check.due("read up to " + at, x.read(), 0);
            Check.due("AT", x.look(4), at);
        }
        Check.due("all TERMS", x.look(0), 5);
    }

    private static void elseFault() {
        String[] faulty = {"01", "07 80 00", "0c", "00 01", "03".repeat(60) + "0a", Make.broad(201)};
        for (int number = 1; number <= 6; number++) {
            TermCodec x = Check.having(faulty[number - 1]);
            Check.due("read " + faulty[number - 1], x.read(), number);
            Check.due("read again", x.read(), number);
            Check.due("AT", x.look(4), 0);
            Check.due("TERMS", x.look(0), 0);
        }
        // What is read behind a fault knows nothing of it.
        TermCodec x = Check.having("01 03 02 0a");
        x.read();
        x.cut(0);
        Check.give(x, "0b 01 00 01");
        Check.due("read behind a fault", x.read(), 0);
        Check.due("no fault", x.look(5), 0);
        Check.due("no place", x.look(6), NONE);
        Check.due("one NODE", x.look(1), 1);
        Check.due("and one TERM more", x.read(), 0);
    }

    private static void atTheEnd() {
        TermCodec x = new TermCodec();
        Check.due("a new object", x.read(), NONE);
        x.give(0x0a, 1);
        Check.due("a byte", x.read(), 0);
        Check.due("the end", x.read(), NONE);
        Check.due("the end again", x.read(), NONE);
        Check.due("AT", x.look(4), 1);
        x.give(0x0b, 1);
        Check.due("a byte more", x.read(), 0);
        Check.due("it is that one", x.of(0, 0), 11);
        x.cut(0);
        Check.due("cut to none", x.read(), NONE);
        x.turn();
        Check.due("an empty OUTPUT turned", x.read(), NONE);
        TermCodec y = Make.readingBehind(200, "0a");
        y.cut(0);
        Check.due("no INPUT and 200 NODES", y.read(), NONE);
    }

    private static void faultStays() {
        TermCodec x = Check.having("0a 03");
        x.read();
        fault(x, "DELAY of nothing", 1, 2);
        x.cut(1);
        x.read();
        Check.due("no fault", x.look(5), 0);
        Check.due("NONE", x.read(), NONE);
        Check.due("still no fault", x.look(5), 0);
        Check.due("still no place", x.look(6), NONE);
        x.give(0x0c, 1);
        fault(x, "no kind", 3, 1);
        x.cut(0);
        Check.due("NONE", x.read(), NONE);
        Check.due("the fault stays", x.look(5), 3);
        Check.due("its place stays", x.look(6), 1);
    }
}
