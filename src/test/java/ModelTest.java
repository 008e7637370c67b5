import java.util.ArrayDeque;
import java.util.Deque;
import java.util.Random;

/**
 * Long runs of calls on new objects, up to the 512 of the document, each answer against the Model's.
 * The numbers come from a fixed seed: every run is the same each time.
 */
public final class ModelTest {
    private static final int RUNS = 3000;
    private static final int CALLS = 512;
    private static final long[] EDGES = {0, 1, -1, 2, 31, 32, 63, 64, -64, -65, 127, 128, 200, 201, 8191, 8192,
        Integer.MAX_VALUE, 1L << 31, 1L << 32, (1L << 62) - 1, 1L << 62, -(1L << 62), -(1L << 62) - 1,
        Long.MAX_VALUE, Long.MIN_VALUE};
    private static final int[] LEAVES = {0, 5, 6, 7, 9, 10, 11};
    private static final int[] SEEN = new int[7];

    private final Random random;
    private final TermCodec x = new TermCodec();
    private final Model model = new Model();
    private final Deque<Integer> waitingBytes = new ArrayDeque<>();
    private final StringBuilder told = new StringBuilder();
    private final int style;
    private int calls = 0;

    private ModelTest(int run) {
        random = new Random(run);
        style = run % 6;
    }

    public static void main(String[] args) {
        for (int run = 0; run < RUNS && !Check.anyWrong(); run++) {
            ModelTest test = new ModelTest(run);
            while (test.calls < CALLS - 1 && !Check.anyWrong()) {
                test.step();
            }
            if (Check.anyWrong()) {
                System.out.println("run " + run + ":" + test.told);
            }
        }
        for (int fault = 1; fault < SEEN.length; fault++) {
            Check.due("fault " + fault + " was among what was read", SEEN[fault] > 20, true);
        }
        Check.end();
    }

    /** Both answers as texts, an exception by its name. */
    private interface Call {
        Object answer();
    }

    private static String textOf(Call call) {
        try {
            return String.valueOf(call.answer());
        } catch (RuntimeException e) {
            return "throws." + e.getClass().getSimpleName();
        }
    }

    private String both(String name, Call real, Call due) {
        calls++;
        told.append(' ').append(name);
        String want = textOf(due);
        Check.due(name + ", call " + calls, textOf(real), want);
        return want;
    }

    private int pick(int n) {
        return random.nextInt(n);
    }

    private long anyLong() {
        switch (pick(3)) {
            case 0: return EDGES[pick(EDGES.length)];
            case 1: return random.nextLong() >> pick(64);
            default: return pick(210) - 3;
        }
    }

    private void step() {
        if (!waitingBytes.isEmpty()) {
            giveWaiting();
            return;
        }
        int dice = pick(100);
        if (dice < 30) {
            build();
        } else if (dice < 40) {
            change();
        } else if (dice < 55) {
            moveBytes();
        } else if (dice < 60) {
            makeInput();
        } else if (dice < 75) {
            read();
        } else {
            observe();
        }
    }

    private void node(int kind, long arg) {
        both("node(" + kind + ", " + arg + ")", () -> x.node(kind, arg), () -> model.node(kind, arg));
    }

    private void build() {
        int dice = pick(20);
        if (dice == 0) {
            node(pick(16) - 2, anyLong());
        } else if (dice < 3) {
            long part = random.nextLong();
            int n = pick(12) == 0 ? pick(20) - 5 : pick(9);
            both("bytes(" + part + ", " + n + ")", () -> x.bytes(part, n), () -> model.bytes(part, n));
        } else if (dice < 5) {
            more();
        } else if (style == 0 || dice < 12) {
            leaf();
        } else {
            node(style == 1 ? 1 + 2 * pick(2) : 1 + pick(4), 0);
        }
    }

    private void more() {
        long part = random.nextLong();
        int n = pick(12) == 0 ? pick(20) - 5 : 1 + pick(8);
        both("more(" + part + ", " + n + ")", () -> x.more(part, n), () -> model.more(part, n));
    }

    private void leaf() {
        int kind = LEAVES[pick(LEAVES.length)];
        switch (kind) {
            case 0: node(0, pick(8) == 0 ? 1 + pick(200) : 1 + pick(4)); break;
            case 6: node(6, pick(32)); break;
            case 7: node(7, anyLong()); break;
            case 9: node(9, pick(2)); break;
            default: node(kind, 0);
        }
    }

    private void change() {
        int dice = pick(40);
        if (dice < 15) {
            both("twice()", x::twice, model::twice);
        } else if (dice < 25) {
            both("split()", x::split, model::split);
        } else if (dice < 39 || style == 2) {
            both("drop()", x::drop, model::drop);
        } else {
            both("clear()", () -> { x.clear(); return ""; }, () -> { model.clear(); return ""; });
        }
    }

    private void moveBytes() {
        int dice = pick(40);
        if (dice < 25) {
            both("write()", x::write, model::write);
        } else if (dice < 35) {
            both("turn()", () -> { x.turn(); return ""; }, () -> { model.turn(); return ""; });
        } else if (dice < 36 && style != 3) {
            both("wipe()", () -> { x.wipe(); return ""; }, () -> { model.wipe(); return ""; });
        } else if (dice < 38) {
            long v = anyLong();
            int n = pick(14) - 2;
            both("give(" + v + ", " + n + ")", () -> x.give(v, n), () -> model.give(v, n));
        } else {
            cut(pick(4) == 0 ? pick(5000) - 20 : pick(model.look(3) + 2));
        }
    }

    private void cut(int n) {
        both("cut(" + n + ")", () -> x.cut(n), () -> model.cut(n));
    }

    private void giveWaiting() {
        int n = Math.min(8, waitingBytes.size());
        long v = 0;
        for (int i = 0; i < n; i++) {
            v = v << 8 | waitingBytes.remove();
        }
        long given = v;
        both("give(" + given + ", " + n + ")", () -> x.give(given, n), () -> model.give(given, n));
    }

    /** Bytes that are nearly those of a term come to the input in the next calls. */
    private void makeInput() {
        if (pick(2) == 0) {
            cut(0);
        }
        term(pick(4) == 0 ? 64 : 1 + pick(12), 0);
        if (pick(3) == 0) {
            for (int i = pick(waitingBytes.size() + 1); i > 0 && !waitingBytes.isEmpty(); i--) {
                waitingBytes.removeLast();
            }
        }
    }

    private void term(int most, int lambdas) {
        if (waitingBytes.size() > 400) {
            return;
        }
        if (pick(60) == 0) {
            waitingBytes.add(pick(256));
            return;
        }
        boolean leaf = most <= 1 || (most < 20 && pick(4) == 0);
        int kind = leaf ? (pick(6) == 0 ? 8 : LEAVES[pick(LEAVES.length)]) : 1 + pick(4);
        waitingBytes.add(kind);
        switch (kind) {
            case 0: unsigned(lambdas); break;
            case 6: waitingBytes.add(pick(20) == 0 ? pick(256) : pick(32)); break;
            case 7: signed(); break;
            case 8: data(); break;
            case 9: waitingBytes.add(pick(20) == 0 ? pick(256) : pick(2)); break;
            case 1: term(most - 1, lambdas + 1); break;
            case 2:
                term(pick(2) == 0 ? 1 : most - 1, lambdas);
                term(most - 1, lambdas);
                break;
            case 3: case 4: term(most - 1, lambdas); break;
            default: break;
        }
    }

    private void groups(long number, int n) {
        for (int i = 0; i < n; i++) {
            int group = (int) (i < 9 ? number >> (7 * i) : number >> 63) & 127;
            waitingBytes.add(i < n - 1 ? group | 128 : group);
        }
    }

    private void unsigned(int lambdas) {
        int dice = pick(30);
        if (dice == 0) {
            groups(random.nextInt() >>> pick(32), 1 + pick(7));
        } else if (dice == 1) {
            groups(EDGES[pick(EDGES.length)], 1 + pick(6));
        } else {
            int i = dice == 2 ? lambdas + pick(3) : 1 + pick(Math.max(1, lambdas));
            groups(i, i < 128 ? 1 : 2);
        }
    }

    private void signed() {
        long number = anyLong();
        int fewest = 1;
        while (fewest < 10 && number >> (7 * fewest - 1) != 0 && number >> (7 * fewest - 1) != -1) {
            fewest++;
        }
        int dice = pick(16);
        if (dice == 0) {
            groups(number, 1 + pick(12));
        } else if (dice == 1) {
            groups(number, 9);
            waitingBytes.add(waitingBytes.removeLast() | 128);
            waitingBytes.add(pick(2) == 0 ? pick(256) : pick(2) * 127);
        } else {
            groups(number, fewest);
        }
    }

    private void data() {
        int n = pick(20) == 0 ? pick(256) : pick(6) == 0 ? 60 + pick(6) : pick(6);
        waitingBytes.add(n);
        for (int i = 0; i < n; i++) {
            waitingBytes.add(pick(256));
        }
    }

    private void read() {
        int fault = Integer.parseInt(both("read()", x::read, model::read));
        if (fault > 0) {
            SEEN[fault]++;
        }
        both("look(6)", () -> x.look(6), () -> model.look(6));
    }

    private int anyNode() {
        return pick(Math.max(1, model.of(0, 1)) + 2) - 1;
    }

    private void observe() {
        int k = anyNode();
        switch (pick(6)) {
            case 0:
                both("number(" + k + ")", () -> x.number(k), () -> model.number(k));
                break;
            case 1:
                int j = pick(70) - 2;
                both("byteAt(" + k + ", " + j + ")", () -> x.byteAt(k, j), () -> model.byteAt(k, j));
                break;
            case 2:
                both("same()", x::same, model::same);
                break;
            case 3:
                int place = pick(model.look(2) + 2) - 1;
                both("output(" + place + ")", () -> x.output(place), () -> model.output(place));
                break;
            case 4:
                int which = pick(10) - 1;
                both("look(" + which + ")", () -> x.look(which), () -> model.look(which));
                break;
            default:
                int w = pick(8) - 1;
                both("of(" + k + ", " + w + ")", () -> x.of(k, w), () -> model.of(k, w));
        }
    }
}
