/** Objects in the states that the edges are about, made with few calls, since an object has 512. */
final class Make {
    static final int LONG_LENGTH = 66;
    private static final int LONG_BYTES = 64;

    private Make() {
    }

    static void units(TermCodec x, int n) {
        for (int i = 0; i < n; i++) {
            x.node(10, 0);
        }
    }

    /** A UNIT with NODES of this kind around it, so many levels in all. */
    static void chain(TermCodec x, int kind, int depth) {
        x.node(10, 0);
        for (int d = 2; d <= depth; d++) {
            x.node(kind, 0);
        }
    }

    /** APPLYS of all INTEGERS from one to another, in their order, whose DEPTH is small. */
    static void integers(TermCodec x, int from, int to) {
        if (from == to) {
            x.node(7, from);
            return;
        }
        int middle = from + (to - from) / 2;
        integers(x, from, middle);
        integers(x, middle + 1, to);
        x.node(2, 0);
    }

    /** BYTES, the first being 1, each the next number. */
    static void data(TermCodec x, int count) {
        x.bytes(0, 0);
        for (int j = 0; j < count; j += 8) {
            long part = 0;
            int n = Math.min(8, count - j);
            for (int b = 1; b <= n; b++) {
                part = part << 8 | (j + b);
            }
            x.more(part, n);
        }
    }

    /** As many BYTES as one NODE can have. */
    static void longData(TermCodec x) {
        data(x, LONG_BYTES);
    }

    /** So many bytes come to the OUTPUT; the stack, which must have room for a NODE, is as before. */
    static void output(TermCodec x, int size) {
        longData(x);
        for (int i = 0; i < size / LONG_LENGTH; i++) {
            x.write();
        }
        x.drop();
        int rest = size % LONG_LENGTH;
        if (rest > 0) {
            if (rest == 1) {
                x.node(10, 0);
            } else {
                data(x, rest - 2);
            }
            x.write();
            x.drop();
        }
    }

    /** The INPUT has so many bytes, whole TERMS; the OUTPUT is empty. */
    static void input(TermCodec x, int size) {
        x.wipe();
        output(x, size);
        x.turn();
        x.wipe();
    }

    /** Whole TERMS of what input made are read, up to this place; the last one alone is on the STACK. */
    static void readUpTo(TermCodec x, int place) {
        for (int i = 0; i <= place / LONG_LENGTH; i++) {
            if (x.look(4) < place) {
                x.clear();
                x.read();
            }
        }
        Check.due("AT up to " + place, x.look(4), place);
    }

    /** An object whose INPUT has these bytes, in hexadecimal, and whose STACK has so many UNITS. */
    static TermCodec readingBehind(int units, String hex) {
        TermCodec x = Check.having(hex);
        units(x, units);
        return x;
    }

    /** The bytes of a TERM with so many NODES, an odd number, whose DEPTH is small. */
    static String broad(int nodes) {
        if (nodes == 1) {
            return "0a";
        }
        int left = (nodes - 1) / 2;
        if (left % 2 == 0) {
            left++;
        }
        return "02" + broad(left) + broad(nodes - 1 - left);
    }
}
