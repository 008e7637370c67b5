/** Promise 14: reading, every fault with its place, and what a fault leaves as it was. */
public final class ReadTest {
    private static final int NONE = TermCodec.NONE;

    public static void main(String[] args) {
        whole();
        ends();
        kinds();
        unsignedForm();
        signedForm();
        signedEdges();
        values();
        unbound();
        bound();
        depth();
        room();
        orderOfFaults();
        placesBehindAt();
        nothingChanges();
        atTheEnd();
        manyWritten();
        Check.end();
    }

    private static String repeat(String hex, int n) {
        return hex.repeat(n);
    }

    /** These bytes are read as a whole, and written again as they were. */
    private static void good(String hex) {
        TermCodec x = Check.having(hex);
        int size = x.look(3);
        Check.due("14: read " + hex, x.read(), 0);
        Check.due("14: AT behind " + hex, x.look(4), size);
        Check.due("14: one TERM of " + hex, x.look(0), 1);
        Check.due("14: closed " + hex, x.of(0, 3), 0);
        Check.due("14: fault of " + hex, x.look(5), 0);
        Check.due("14: place of " + hex, x.look(6), NONE);
        Check.due("14: written " + hex, Check.written(x).replace(" ", ""), hex.replace(" ", ""));
    }

    private static void bad(String hex, int fault, int place) {
        TermCodec x = Check.having(hex);
        Check.due("14: read " + hex, x.read(), fault);
        Check.due("14: look(5) of " + hex, x.look(5), fault);
        Check.due("14: look(6) of " + hex, x.look(6), place);
        Check.due("14: AT of " + hex, x.look(4), 0);
        Check.due("14: terms of " + hex, x.look(0), 0);
        Check.due("14: nodes of " + hex, x.look(1), 0);
    }

    private static void whole() {
        good("05");
        good("0a");
        good("0b");
        good("06 00");
        good("06 1f");
        good("09 00");
        good("09 01");
        good("08 00");
        good("08 03 00 80 ff");
        good("08 40" + repeat("a5", 64));
        good("01 00 01");
        good("03 04 05");
        good("02 01 00 01 02 0a 0b");
        good("02 02 02 0a 0b 02 05 05 01 01 02 00 02 00 01");
        TermCodec x = Check.having("0a 0b 05");
        Check.due("14: one of three", x.read(), 0);
        Check.due("14: AT behind one", x.look(4), 1);
        x.read();
        x.read();
        Check.due("14: all three", Check.stackOf(x), "05 | 0b | 0a");
    }

    private static void ends() {
        bad("01", 1, 1);
        bad("02 0a", 1, 2);
        bad("03 04", 1, 2);
        bad("00", 1, 1);
        bad("01 00 81", 1, 3);
        bad("06", 1, 1);
        bad("09", 1, 1);
        bad("07", 1, 1);
        bad("07 80", 1, 2);
        bad("07 80 80 80 80 80 80 80 80 80", 1, 10);
        bad("08", 1, 1);
        bad("08 01", 1, 2);
        bad("08 40" + repeat("00", 63), 1, 65);
        bad("00 80 80 80 80", 1, 5);
    }

    private static void kinds() {
        bad("0c", 3, 0);
        bad("ff", 3, 0);
        bad("80", 3, 0);
        bad("81 0a", 3, 0);
        bad("01 0c", 3, 1);
        bad("02 0a 7f", 3, 2);
        bad("02 0d 7f", 3, 1);
    }

    private static void unsignedForm() {
        bad("01 00 81 00", 2, 3);
        bad("01 00 80 00", 2, 3);
        bad("01 00 81 80 00", 2, 4);
        bad("01 00 81 80 80 00", 2, 5);
        bad("01 00 81 80 80 80 00", 2, 6);
        bad("01 00 81 80 80 80 80", 2, 6);
        bad("01 00 ff ff ff ff ff ff", 2, 6);
        bad("01 00 81 80 80 80 80 00", 2, 6);
        bad("01 00 80 80 80 80 08", 2, 6);
        bad("01 00 ff ff ff ff 7f", 2, 6);
        bad("01 00 ff ff ff ff 0f", 2, 6);
        // 2147483647 and 2^28 are well formed, but no VARIABLE.
        bad("01 00 ff ff ff ff 07", 3, 6);
        bad("01 00 80 80 80 80 01", 3, 6);
        bad("01 00 80 80 80 01", 3, 5);
        bad("01 00 80 80 01", 3, 4);
    }

    private static void signedForm() {
        bad("07 80 00", 2, 2);
        bad("07 bf 00", 2, 2);
        bad("07 ff 7f", 2, 2);
        bad("07 c0 7f", 2, 2);
        bad("07 c0 80 00", 2, 3);
        bad("07 bf ff 7f", 2, 3);
        bad("07 80 80 80 80 80 80 80 80 80 80", 2, 10);
        bad("07 ff ff ff ff ff ff ff ff ff ff 00", 2, 10);
        bad("07 80 80 80 80 80 80 80 80 80 01", 2, 10);
        bad("07 ff ff ff ff ff ff ff ff ff 01", 2, 10);
        bad("07 80 80 80 80 80 80 80 80 80 7e", 2, 10);
        bad("07 80 80 80 80 80 80 80 80 80 3f", 2, 10);
        bad("07 80 80 80 80 80 80 80 80 80 40", 2, 10);
        bad("07 80 80 80 80 80 80 80 80 80 00", 2, 10);
        bad("07 80 80 80 80 80 80 80 80 bf 00", 2, 10);
        bad("07 ff ff ff ff ff ff ff ff ff 7f", 2, 10);
        bad("07 80 80 80 80 80 80 80 80 c0 7f", 2, 10);
        bad("07 80 80 80 80 80 80 80 80 00", 2, 9);
    }

    private static void signedEdges() {
        TermCodec x = new TermCodec();
        for (int bit = 0; bit < 64; bit++) {
            for (long v : new long[] {(1L << bit) - 1, 1L << bit, -(1L << bit), -(1L << bit) - 1}) {
                x.clear();
                x.wipe();
                x.node(7, v);
                x.write();
                x.turn();
                Check.due("14: read of INTEGER " + v, x.read(), 0);
                Check.due("14: INTEGER " + v, x.number(0), v);
                Check.due("14: length of INTEGER " + v, x.look(4), x.look(2));
            }
            x = new TermCodec();
        }
        good("07 c0 00");
        good("07 bf 7f");
        good("07 80 01");
        good("07 ff 7e");
        good("07 ff ff ff ff ff ff ff ff ff 00");
        good("07 80 80 80 80 80 80 80 80 80 7f");
        good("07 80 80 80 80 80 80 80 80 c0 00");
        good("07 ff ff ff ff ff ff ff ff bf 7f");
    }

    private static void values() {
        bad("00 00", 3, 1);
        bad("01 00 00", 3, 2);
        bad("01 00 c9 01", 3, 3);
        bad("06 20", 3, 1);
        bad("06 80", 3, 1);
        bad("06 ff", 3, 1);
        bad("09 02", 3, 1);
        bad("09 81", 3, 1);
        bad("08 41", 3, 1);
        bad("08 ff", 3, 1);
        bad("08 41" + repeat("00", 65), 3, 1);
        bad("02 0a 06 20", 3, 3);
    }

    private static void unbound() {
        bad("00 01", 4, 0);
        bad("01 00 02", 4, 1);
        bad("01 00 40", 4, 1);
        bad("01 00 7f", 4, 1);
        bad("01 00 80 01", 4, 1);
        bad("01 00 c8 01", 4, 1);
        bad("03 04 00 01", 4, 2);
        bad("02 01 00 01 00 01", 4, 4);
        bad("02 00 01 01 00 01", 4, 1);
        bad("01 02 01 00 02 00 02", 4, 5);
        bad("01 02 01 00 03 0c", 4, 3);
        // What is on the stack binds nothing.
        TermCodec x = Check.having("00 01");
        x.node(10, 0);
        x.node(1, 0);
        Check.due("14: not bound by another TERM", x.read(), 4);
    }

    private static void bound() {
        good("01 01 01 00 03");
        good("01 02 01 00 02 00 01");
        good("01 03 04 02 0a 00 01");
        good(repeat("01", 59) + "00 3b");
        bad(repeat("01", 59) + "00 3c", 4, 59);
    }

    private static void depth() {
        good(repeat("03", 59) + "0a");
        bad(repeat("03", 60) + "0a", 5, 60);
        bad(repeat("03", 60), 1, 60);
        bad(repeat("03", 60) + "0c", 3, 60);
        bad(repeat("03", 60) + "07", 5, 60);
        bad(repeat("01", 60) + "00 3c", 5, 60);
        good(repeat("02", 59) + "0a" + repeat("0b", 59));
        bad(repeat("02", 60) + "0a" + repeat("0b", 60), 5, 60);
        good(repeat("02 0a", 59) + "0b");
        bad(repeat("02 0a", 60) + "0b", 5, 119);
        // The depth falls again behind a deep function.
        good("02" + repeat("03", 58) + "0a" + repeat("04", 58) + "0b");
        bad("02" + repeat("03", 58) + "0a" + repeat("04", 59) + "0b", 5, 119);
        // How deep another TERM is does not matter.
        TermCodec x = Check.having(repeat("03", 59) + "0a");
        x.node(10, 0);
        for (int i = 0; i < 59; i++) {
            x.node(1, 0);
        }
        Check.due("14: depth 60 behind depth 60", x.read(), 0);
        Check.due("14: its depth", x.of(0, 2), 60);
    }

    private static void room() {
        good(Make.broad(199));
        good("03" + Make.broad(199));
        bad(Make.broad(201), 6, 200);
        bad("03 04" + Make.broad(199), 6, 200);
        bad("03 04" + Make.broad(199).substring(0, 2 * 198), 1, 200);
        TermCodec x = Check.having("0a 07 05 02 0a 0b 02 0a 0c");
        for (int i = 0; i < 198; i++) {
            x.node(11, 0);
        }
        Check.due("14: the 199th", x.read(), 0);
        Check.due("14: the 200th", x.read(), 0);
        Check.due("14: the 201st", x.read(), 6);
        Check.due("14: its place", x.look(6), 3);
        Check.due("14: nodes stay", x.look(1), 200);
        Check.due("14: AT stays", x.look(4), 3);
        x.drop();
        Check.due("14: the 201st by an APPLY", x.read(), 6);
        Check.due("14: its place in the APPLY", x.look(6), 4);
        x.drop();
        Check.due("14: the third of an APPLY", x.read(), 6);
        Check.due("14: its place as argument", x.look(6), 5);
        x.drop();
        Check.due("14: just enough room", x.read(), 0);
        Check.due("14: 200 nodes", x.look(1), 200);
        x.drop();
        x.node(10, 0);
        Check.due("14: a kind that is none without room", x.read(), 3);
        Check.due("14: its place without room", x.look(6), 8);
    }

    private static void orderOfFaults() {
        // 5 goes before 6, 6 before the number's faults.
        TermCodec x = Check.having(repeat("03", 60) + "00");
        for (int i = 0; i < 140; i++) {
            x.node(11, 0);
        }
        Check.due("14: too deep and no room", x.read(), 5);
        Check.due("14: at 60", x.look(6), 60);
        x = Check.having("07");
        for (int i = 0; i < 200; i++) {
            x.node(11, 0);
        }
        Check.due("14: no room and no number", x.read(), 6);
        Check.due("14: at 0", x.look(6), 0);
        // 2 goes before 3 and 4, 3 before 4; what is behind is not seen.
        bad("00 80 00", 2, 2);
        bad("00 c9 01", 3, 2);
        bad("00 81 00", 2, 2);
        bad("02 0c 0c", 3, 1);
        bad("02 00 01 0c", 4, 1);
        bad("02 07 80 00 00 01", 2, 3);
    }

    private static void placesBehindAt() {
        TermCodec x = Check.having("0a 07 e8 07 01 00 02");
        x.read();
        x.read();
        Check.due("14: AT before", x.look(4), 4);
        Check.due("14: behind others", x.read(), 4);
        Check.due("14: the place in the INPUT", x.look(6), 5);
        Check.due("14: AT stays", x.look(4), 4);
        x.cut(6);
        x.read();
        x.read();
        Check.due("14: the end behind others", x.read(), 1);
        Check.due("14: the place of the end", x.look(6), 6);
        x.give(1, 1);
        Check.due("14: read when it is there", x.read(), 0);
        Check.due("14: AT behind it", x.look(4), 7);
        Check.due("14: no fault now", x.look(5), 0);
        Check.due("14: no place now", x.look(6), NONE);
    }

    private static void nothingChanges() {
        TermCodec x = Check.having("02 08 03 aa bb cc 0c");
        x.bytes(0x1122, 2);
        x.node(1, 0);
        x.write();
        Check.due("14: a fault", x.read(), 3);
        Check.due("14: again", x.read(), 3);
        Check.due("14: input stays", x.look(3), 7);
        Check.due("14: output stays", x.look(2), 5);
        Check.due("14: AT stays", x.look(4), 0);
        x.bytes(0, 0);
        Check.due("14: nothing is left of what was read", Check.stackOf(x), "08 00 | 01 08 02 11 22");
    }

    private static void atTheEnd() {
        TermCodec x = new TermCodec();
        Check.due("14: no input", x.read(), NONE);
        Check.due("14: fault at first", x.look(5), 0);
        Check.due("14: place at first", x.look(6), NONE);
        x.give(0x0c, 1);
        x.read();
        x.cut(0);
        Check.due("14: cut to none", x.read(), NONE);
        Check.due("14: fault stays", x.look(5), 3);
        Check.due("14: place stays", x.look(6), 0);
        x.give(0x0a, 1);
        Check.due("14: UNIT", x.read(), 0);
        Check.due("14: at the end", x.read(), NONE);
        Check.due("14: no fault stays", x.look(5), 0);
        Check.due("14: one TERM", x.look(0), 1);
    }

    private static void manyWritten() {
        TermCodec x = new TermCodec();
        x.node(0, 1);
        x.bytes(0xabcdefL, 3);
        x.node(2, 0);
        x.node(1, 0);
        x.node(7, 12345678901L);
        x.node(2, 0);
        x.write();
        x.twice();
        x.node(2, 0);
        x.write();
        x.turn();
        Check.due("14: the first of two", x.read(), 0);
        Check.due("14: the second of two", x.read(), 0);
        Check.due("14: no third", x.read(), NONE);
        Check.due("14: two are not the same", x.same(), false);
        x.split();
        Check.due("14: its parts are", x.same(), true);
    }
}
