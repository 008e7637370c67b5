import java.util.function.Function;
import java.util.function.Supplier;

/**
 * "What throws, or answers false, NONE or a fault, changes nothing (but the fault and its place)":
 * each such answer of each call, with all that can be seen of an object before and after it.
 */
public final class UnchangedTest {
    private static final int FULL = 4096;

    public static void main(String[] args) {
        Check.sentence("What throws changes nothing: node", UnchangedTest::node);
        Check.sentence("What throws changes nothing: bytes", UnchangedTest::bytes);
        Check.sentence("What throws changes nothing: number, same", UnchangedTest::numberAndSame);
        Check.sentence("What answers false changes nothing: more", UnchangedTest::more);
        Check.sentence("What answers false changes nothing: drop, twice", UnchangedTest::dropAndTwice);
        Check.sentence("What answers false changes nothing: give", UnchangedTest::give);
        Check.sentence("What answers false changes nothing: cut", UnchangedTest::cut);
        Check.sentence("What answers NONE changes nothing: split", UnchangedTest::split);
        Check.sentence("What answers NONE changes nothing: write", UnchangedTest::write);
        Check.sentence("What answers NONE changes nothing: read", UnchangedTest::readOfNone);
        Check.sentence("What answers NONE changes nothing: of, byteAt, output, look", UnchangedTest::lookOfNone);
        Check.sentence("a fault changes nothing (but the fault and its place)", UnchangedTest::faults);
        Check.sentence("what is asked changes nothing", UnchangedTest::questions);
        Check.end();
    }

    /** The call has this answer, and the object is as it was, its fault, too. */
    private static void unchanged(String name, Supplier<TermCodec> make, Function<TermCodec, Object> call, String due) {
        Check.due(name, answer(call, make.get()), due);
        Supplier<TermCodec> after = () -> {
            TermCodec x = make.get();
            answer(call, x);
            return x;
        };
        Check.due(name + ": what is seen then", Seen.all(after), Seen.all(make));
    }

    private static String answer(Function<TermCodec, Object> call, TermCodec x) {
        try {
            return String.valueOf(call.apply(x));
        } catch (IllegalArgumentException | IllegalStateException e) {
            return e.getClass().getSimpleName();
        }
    }

    private static void badArgument(String name, Supplier<TermCodec> make, Function<TermCodec, Object> call) {
        unchanged(name, make, call, "IllegalArgumentException");
    }

    private static void badState(String name, Supplier<TermCodec> make, Function<TermCodec, Object> call) {
        unchanged(name, make, call, "IllegalStateException");
    }

    private static void isFalse(String name, Supplier<TermCodec> make, Function<TermCodec, Object> call) {
        unchanged(name, make, call, "false");
    }

    private static void isNone(String name, Supplier<TermCodec> make, Function<TermCodec, Object> call) {
        unchanged(name, make, call, "-1");
    }

    /** TERMS of each form, BYTES as the last; an OUTPUT; an INPUT that was read in part; a fault. */
    private static TermCodec some() {
        TermCodec x = Check.having("07 e8 07 0a 02 0b 0c");
        x.node(0, 130);
        x.node(7, -300);
        x.node(2, 0);
        x.node(1, 0);
        x.node(6, 31);
        x.write();
        x.read();
        x.read();
        x.read();
        Make.data(x, 20);
        return x;
    }

    /** The same with a TERM behind it that is no BYTES. */
    private static TermCodec someAndInteger() {
        TermCodec x = some();
        x.node(7, 77);
        return x;
    }

    private static TermCodec oneTerm() {
        TermCodec x = Check.having("0a ff");
        Make.longData(x);
        x.write();
        x.read();
        x.drop();
        x.read();
        return x;
    }

    /** 200 NODES, 4096 bytes in the OUTPUT and the INPUT, read in part, and a fault for want of room. */
    private static TermCodec full() {
        TermCodec x = new TermCodec();
        Make.output(x, FULL);
        x.turn();
        Make.integers(x, 1, 95);
        x.read();
        Make.units(x, 9);
        Make.longData(x);
        x.read();
        return x;
    }

    /** Two TERMS, the first with one NODE, the second with DEPTH 60. */
    private static TermCodec deepLast() {
        TermCodec x = Check.having("05 0c");
        x.node(7, 77);
        Make.chain(x, 1, 60);
        x.write();
        return x;
    }

    private static TermCodec deepBelow() {
        TermCodec x = deepLast();
        x.bytes(0x0102, 2);
        return x;
    }

    private static void node() {
        for (int kind : new int[] {-1, 8, 12, Integer.MAX_VALUE}) {
            badArgument("kind " + kind, UnchangedTest::some, x -> x.node(kind, 0));
        }
        badArgument("VARIABLE 0", UnchangedTest::some, x -> x.node(0, 0));
        badArgument("VARIABLE 201", UnchangedTest::some, x -> x.node(0, 201));
        badArgument("BUILTIN 32", UnchangedTest::some, x -> x.node(6, 32));
        badArgument("TRUTH 2", UnchangedTest::some, x -> x.node(9, 2));
        badArgument("LAMBDA with 1", UnchangedTest::some, x -> x.node(1, 1));
        badArgument("APPLY with 1", UnchangedTest::some, x -> x.node(2, 1));
        badArgument("no kind with 200 NODES", UnchangedTest::full, x -> x.node(12, 0));
        for (int kind = 1; kind <= 4; kind++) {
            int k = kind;
            badState("kind " + k + " of none", TermCodec::new, x -> x.node(k, 0));
            badState("kind " + k + " of DEPTH 60", UnchangedTest::deepLast, x -> x.node(k, 0));
            badState("kind " + k + " with 200 NODES", UnchangedTest::full, x -> x.node(k, 0));
        }
        badState("APPLY of one", UnchangedTest::oneTerm, x -> x.node(2, 0));
        badState("APPLY of a function of DEPTH 60", UnchangedTest::deepBelow, x -> x.node(2, 0));
        badState("INTEGER with 200 NODES", UnchangedTest::full, x -> x.node(7, 5));
    }

    private static void bytes() {
        badArgument("n = -1", UnchangedTest::some, x -> x.bytes(-1, -1));
        badArgument("n = 9", UnchangedTest::some, x -> x.bytes(-1, 9));
        badArgument("n = 9 with 200 NODES", UnchangedTest::full, x -> x.bytes(-1, 9));
        badState("0 with 200 NODES", UnchangedTest::full, x -> x.bytes(-1, 0));
        badState("8 with 200 NODES", UnchangedTest::full, x -> x.bytes(-1, 8));
    }

    private static void numberAndSame() {
        badArgument("number of none", TermCodec::new, x -> x.number(0));
        badArgument("number of BYTES", UnchangedTest::some, x -> x.number(0));
        badArgument("number(1)", UnchangedTest::some, x -> x.number(1));
        badArgument("number(-1)", UnchangedTest::some, x -> x.number(-1));
        badState("same of none", TermCodec::new, x -> x.same());
        badState("same of one", UnchangedTest::oneTerm, x -> x.same());
    }

    private static void more() {
        isFalse("of none", TermCodec::new, x -> x.more(-1, 1));
        isFalse("of an INTEGER above BYTES", UnchangedTest::someAndInteger, x -> x.more(-1, 1));
        for (int n : new int[] {0, -1, 9, Integer.MIN_VALUE}) {
            isFalse("n = " + n, UnchangedTest::some, x -> x.more(-1, n));
        }
        isFalse("a 65th", UnchangedTest::full, x -> x.more(-1, 1));
        Supplier<TermCodec> with60 = () -> {
            TermCodec x = some();
            Make.data(x, 60);
            return x;
        };
        isFalse("5 behind 60", with60, x -> x.more(-1, 5));
        isFalse("8 behind 60", with60, x -> x.more(-1, 8));
    }

    private static void dropAndTwice() {
        isFalse("drop of none", TermCodec::new, x -> x.drop());
        isFalse("twice of none", TermCodec::new, x -> x.twice());
        isFalse("twice with 200 NODES", UnchangedTest::full, x -> x.twice());
        Supplier<TermCodec> withGreat = () -> {
            TermCodec x = some();
            Make.integers(x, 1, 70);
            return x;
        };
        isFalse("twice of a TERM that is too great", withGreat, x -> x.twice());
        Supplier<TermCodec> bytesAlone = () -> Check.having("0a 0c");
        isFalse("drop of none with an INPUT", bytesAlone, x -> x.drop());
    }

    private static void give() {
        for (int n : new int[] {0, -1, 9, Integer.MAX_VALUE}) {
            isFalse("n = " + n, UnchangedTest::some, x -> x.give(0x0a0a0a, n));
        }
        isFalse("no room", UnchangedTest::full, x -> x.give(0x0a, 1));
        Supplier<TermCodec> with3 = () -> {
            TermCodec x = some();
            Make.input(x, FULL - 3);
            return x;
        };
        isFalse("no room for all of it", with3, x -> x.give(0x0a0a0a0a, 4));
        isFalse("no room for all of it", with3, x -> x.give(0x0a0a0a0a, 8));
    }

    private static void cut() {
        isFalse("1 of none", TermCodec::new, x -> x.cut(1));
        isFalse("8 of 7", UnchangedTest::some, x -> x.cut(8));
        isFalse("-1", UnchangedTest::some, x -> x.cut(-1));
        isFalse("4097 of 4096", UnchangedTest::full, x -> x.cut(FULL + 1));
        isFalse("below 0 of 4096", UnchangedTest::full, x -> x.cut(Integer.MIN_VALUE));
    }

    private static void split() {
        isNone("of none", TermCodec::new, x -> x.split());
        isNone("of BYTES", UnchangedTest::some, x -> x.split());
        isNone("of an INTEGER", UnchangedTest::someAndInteger, x -> x.split());
        isNone("of BYTES with 200 NODES", UnchangedTest::full, x -> x.split());
    }

    private static void write() {
        isNone("of none", TermCodec::new, x -> x.write());
        Supplier<TermCodec> noTerm = () -> {
            TermCodec x = some();
            x.clear();
            return x;
        };
        isNone("of none behind others", noTerm, x -> x.write());
        isNone("no room", UnchangedTest::full, x -> x.write());
        Supplier<TermCodec> with21 = () -> {
            TermCodec x = some();
            x.wipe();
            Make.output(x, FULL - 21);
            return x;
        };
        isNone("no room for all of it", with21, x -> x.write());
        Supplier<TermCodec> tooLong = () -> {
            TermCodec x = some();
            Make.longData(x);
            for (int i = 0; i < 6; i++) {
                x.twice();
                x.node(2, 0);
            }
            return x;
        };
        isNone("a TERM that is too long", tooLong, x -> x.write());
    }

    private static void readOfNone() {
        isNone("of none", TermCodec::new, x -> x.read());
        Supplier<TermCodec> behindFault = () -> {
            TermCodec x = some();
            x.cut(0);
            return x;
        };
        isNone("of none behind a fault", behindFault, x -> x.read());
        Supplier<TermCodec> atTheEnd = () -> {
            TermCodec x = some();
            x.cut(4);
            x.read();
            x.read();
            return x;
        };
        isNone("at the end", atTheEnd, x -> x.read());
        Supplier<TermCodec> atTheEndOfAll = () -> {
            TermCodec x = new TermCodec();
            Make.input(x, FULL);
            for (int i = 0; i < 63; i++) {
                x.read();
            }
            Make.integers(x, 1, 69);
            return x;
        };
        isNone("at the end of 4096 with 200 NODES", atTheEndOfAll, x -> x.read());
    }

    private static void lookOfNone() {
        isNone("of(1, 0)", UnchangedTest::some, x -> x.of(1, 0));
        isNone("of(0, 6)", UnchangedTest::some, x -> x.of(0, 6));
        isNone("of none", TermCodec::new, x -> x.of(0, 0));
        isNone("byteAt(0, 20)", UnchangedTest::some, x -> x.byteAt(0, 20));
        isNone("byteAt(1, 0)", UnchangedTest::some, x -> x.byteAt(1, 0));
        isNone("output(4096)", UnchangedTest::full, x -> x.output(FULL));
        isNone("output(-1)", UnchangedTest::some, x -> x.output(-1));
        isNone("look(8)", UnchangedTest::some, x -> x.look(8));
        isNone("look(-1)", UnchangedTest::full, x -> x.look(-1));
    }

    /** A state whose last TERM is a UNIT that was read, with these bytes behind it in the INPUT. */
    private static TermCodec readingBehind(Supplier<TermCodec> state, String hex) {
        TermCodec x = state.get();
        x.drop();
        x.cut(0);
        Check.give(x, "0a" + hex);
        x.read();
        return x;
    }

    /** The fault and its place are told, and all else is as it was. */
    private static void fault(String name, Supplier<TermCodec> state, String hex, int number, int place) {
        Supplier<TermCodec> before = () -> readingBehind(state, hex);
        Supplier<TermCodec> after = () -> {
            TermCodec x = before.get();
            x.read();
            return x;
        };
        Check.due(name + ": AT", before.get().look(4), 1);
        Check.due(name + ": fault", before.get().read(), number);
        Check.due(name + ": look(5)", after.get().look(5), number);
        Check.due(name + ": look(6)", after.get().look(6), place);
        Check.due(name + ": what is seen then", Seen.withoutFault(after), Seen.withoutFault(before));
    }

    private static void faults() {
        fault("1 for a kind", UnchangedTest::some, "02 08 03 aa bb cc", 1, 7);
        fault("1 for a number", UnchangedTest::some, "02 08 03 aa bb cc 07 80", 1, 9);
        fault("1 for a byte of BYTES", UnchangedTest::some, "02 0a 08 03 aa bb", 1, 7);
        fault("2 of U", UnchangedTest::some, "01 02 08 01 aa 00 81 00 0a", 2, 8);
        fault("2 of S", UnchangedTest::some, "01 02 08 01 aa 07 ff 7f 0a", 2, 8);
        fault("3 for a kind", UnchangedTest::some, "02 07 05 0c 0a", 3, 4);
        fault("3 for a number", UnchangedTest::some, "02 07 05 08 41 0a", 3, 5);
        fault("4", UnchangedTest::some, "01 02 00 01 00 02 0a", 4, 5);
        fault("5", UnchangedTest::some, "03".repeat(60) + "0a", 5, 61);
        fault("6", UnchangedTest::full, "08 01 aa 0a", 6, 1);
        Supplier<TermCodec> with198 = () -> {
            TermCodec x = new TermCodec();
            Make.units(x, 198);
            return x;
        };
        fault("6 within a TERM", with198, "02 08 01 aa 08 01 bb", 6, 5);
        fault("1 behind a UNIT alone", TermCodec::new, "02 0a", 1, 3);
    }

    /** Answers that are no refusals, of calls that only tell something. */
    private static void questions() {
        unchanged("of", UnchangedTest::some, x -> x.of(0, 5), "20");
        unchanged("byteAt", UnchangedTest::some, x -> x.byteAt(0, 19), "20");
        unchanged("output", UnchangedTest::some, x -> x.output(1), "31");
        unchanged("look", UnchangedTest::some, x -> x.look(7), "22");
        unchanged("number", UnchangedTest::someAndInteger, x -> x.number(0), "77");
        unchanged("same", UnchangedTest::some, x -> x.same(), "false");
    }
}
