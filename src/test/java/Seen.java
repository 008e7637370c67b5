import java.util.function.Supplier;

/** All that can be seen of an object, each piece of it on a new one, since an object has 512 calls. */
final class Seen {
    private static final int PIECE = 200;
    private static final int MOST_READ = 70;

    private final Supplier<TermCodec> make;
    private final StringBuilder text = new StringBuilder();

    private Seen(Supplier<TermCodec> make) {
        this.make = make;
    }

    /** But for the fault and its place. */
    static String withoutFault(Supplier<TermCodec> make) {
        Seen seen = new Seen(make);
        seen.looks();
        seen.output();
        seen.stack();
        seen.input();
        return seen.text.toString();
    }

    static String all(Supplier<TermCodec> make) {
        TermCodec x = make.get();
        return "fault " + x.look(5) + " at " + x.look(6) + withoutFault(make);
    }

    private void add(String name, long value) {
        text.append(' ').append(name).append(value);
    }

    private void looks() {
        TermCodec x = make.get();
        for (int which : new int[] {0, 1, 2, 3, 4, 7}) {
            add("look", x.look(which));
        }
    }

    private void output() {
        int size = make.get().look(2);
        for (int from = 0; from <= size; from += PIECE) {
            TermCodec x = make.get();
            // One byte too many, which must be none.
            for (int k = from; k <= size && k < from + PIECE; k++) {
                add("", x.output(k));
            }
        }
    }

    private void stack() {
        int terms = make.get().look(0);
        for (int t = 0; t < terms; t++) {
            int nodes = dropped(t).of(0, 1);
            add("\nterm", t);
            for (int k = 0; k < nodes; k++) {
                node(dropped(t), k);
            }
        }
    }

    private TermCodec dropped(int terms) {
        TermCodec x = make.get();
        for (int t = 0; t < terms; t++) {
            x.drop();
        }
        return x;
    }

    private void node(TermCodec x, int k) {
        for (int w = 0; w <= 5; w++) {
            add(w == 0 ? "node" : "", x.of(k, w));
        }
        int kind = x.of(k, 0);
        if (kind == 0 || kind == 6 || kind == 7 || kind == 9) {
            add("number", x.number(k));
        }
        for (int j = 0; j < x.of(k, 5); j++) {
            add("", x.byteAt(k, j));
        }
    }

    /** What is read from AT on, and what is read from the front on, up to the end or a fault. */
    private void input() {
        for (boolean front : new boolean[] {false, true}) {
            int fault = 0;
            for (int i = 0; i < MOST_READ && fault == 0; i++) {
                fault = readInto(i, front);
            }
        }
    }

    private int readInto(int before, boolean front) {
        TermCodec x = make.get();
        x.clear();
        if (front) {
            x.cut(x.look(3));
        }
        for (int i = 0; i < before; i++) {
            x.read();
            x.clear();
        }
        int fault = x.read();
        add("\nread", fault);
        add("at", x.look(4));
        if (fault == 0) {
            x.wipe();
            int size = x.write();
            for (int k = 0; k < size; k++) {
                add("", x.output(k));
            }
        } else if (fault > 0) {
            add("place", x.look(6));
        }
        return fault;
    }
}
