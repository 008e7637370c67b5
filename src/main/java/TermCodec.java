/**
 * Terms of functions as bytes: put together from below, written in one way alone, and read again,
 * whatever bytes there are, by the number and place of the first fault; all variables that are read
 * are bound.
 */
public final class TermCodec {
    public static final int NONE = -1;

    private static final int VARIABLE = 0;
    private static final int LAMBDA = 1;
    private static final int APPLY = 2;
    private static final int DELAY = 3;
    private static final int FORCE = 4;
    private static final int BUILTIN = 6;
    private static final int INTEGER = 7;
    private static final int BYTES = 8;
    private static final int TRUTH = 9;
    private static final int LAST_KIND = 11;

    private static final int MAX_NODES = 200;
    private static final int MAX_DEPTH = 60;
    private static final int MAX_VARIABLE = 200;
    private static final int MAX_BUILTIN = 31;
    private static final int MAX_BYTES = 64;
    private static final int MAX_ROW = 4096;
    private static final int MAX_PIECE = 8;
    private static final int MAX_UNSIGNED = 2147483647;
    private static final int MAX_UNSIGNED_GROUPS = 5;
    private static final int MAX_SIGNED_GROUPS = 10;

    private static final int FAULT_END = 1;
    private static final int FAULT_FORM = 2;
    private static final int FAULT_VALUE = 3;
    private static final int FAULT_UNBOUND = 4;
    private static final int FAULT_DEPTH = 5;
    private static final int FAULT_ROOM = 6;

    private final TermStack stack;
    private final ByteRow written;
    private final ByteRow given;
    private final Reader reader;

    public TermCodec() {
        stack = new TermStack();
        written = new ByteRow();
        given = new ByteRow();
        reader = new Reader(given, stack);
    }

    public void clear() {
        stack.terms = 0;
        stack.nodes = 0;
    }

    public int node(int kind, long arg) throws IllegalArgumentException, IllegalStateException {
        if (!Format.isKind(kind) || kind == BYTES || !Format.fits(kind, arg)) {
            throw new IllegalArgumentException("no such kind or number");
        }
        if (!stack.put(kind, arg)) {
            throw new IllegalStateException("too few terms, no room, or too deep");
        }
        return stack.terms;
    }

    public int bytes(long part, int n) throws IllegalArgumentException, IllegalStateException {
        if (n < 0 || n > MAX_PIECE) {
            throw new IllegalArgumentException("not 0 to 8 bytes");
        }
        if (!stack.put(BYTES, 0)) {
            throw new IllegalStateException("no room");
        }
        stack.extend(part, n);
        return stack.terms;
    }

    public boolean more(long part, int n) {
        return n >= 1 && n <= MAX_PIECE && stack.extend(part, n);
    }

    public boolean drop() {
        return stack.removeLast();
    }

    public boolean twice() {
        return stack.repeatLast();
    }

    public int split() {
        return stack.openLast();
    }

    public int write() {
        int root = stack.lastRoot();
        if (root < 0 || stack.lengths[root] > written.room()) {
            return NONE;
        }
        int end = root + stack.sizes[root];
        for (int i = root; i < end && i < MAX_NODES; i++) {
            stack.appendNode(i, written);
        }
        return written.size;
    }

    public void wipe() {
        written.size = 0;
    }

    public boolean give(long v, int n) {
        if (n < 1 || n > MAX_PIECE || n > given.room()) {
            return false;
        }
        for (int i = n - 1; i >= 0; i--) {
            given.append(Format.byteOf(v, i));
        }
        return true;
    }

    public boolean cut(int n) {
        if (n < 0 || n > given.size) {
            return false;
        }
        given.size = n;
        reader.at = 0;
        return true;
    }

    public void turn() {
        given.copyFrom(written);
        reader.at = 0;
    }

    public int read() {
        return reader.readTerm();
    }

    public int of(int k, int w) {
        int i = stack.find(k);
        if (i < 0) {
            return NONE;
        }
        switch (w) {
            case 0:
                return stack.kinds[i];
            case 1:
                return stack.sizes[i];
            case 2:
                return stack.depths[i];
            case 3:
                return stack.lacks[i];
            case 4:
                return stack.parentOf(k);
            case 5:
                return stack.byteCount(i);
            default:
                return NONE;
        }
    }

    public long number(int k) throws IllegalArgumentException {
        int i = stack.find(k);
        if (i < 0 || !Format.hasNumber(stack.kinds[i])) {
            throw new IllegalArgumentException("no number there");
        }
        return stack.numbers[i];
    }

    public int byteAt(int k, int j) {
        int i = stack.find(k);
        if (i < 0 || j < 0 || j >= stack.byteCount(i)) {
            return NONE;
        }
        return stack.byteIn(i, j);
    }

    public boolean same() throws IllegalStateException {
        if (stack.terms < 2) {
            throw new IllegalStateException("fewer than two terms");
        }
        return stack.lastTwoAlike();
    }

    public int output(int k) {
        return written.get(k);
    }

    public int look(int which) {
        switch (which) {
            case 0:
                return stack.terms;
            case 1:
                return stack.nodes;
            case 2:
                return written.size;
            case 3:
                return given.size;
            case 4:
                return reader.at;
            case 5:
                return reader.fault;
            case 6:
                return reader.place;
            case 7:
                return stack.lastLength();
            default:
                return NONE;
        }
    }

    /** What the document says of kinds and of numbers as bytes, without any state. */
    private static final class Format {
        static boolean isKind(int kind) {
            return kind >= 0 && kind <= LAST_KIND;
        }

        static int partsOf(int kind) {
            if (kind == APPLY) {
                return 2;
            }
            return kind == LAMBDA || kind == DELAY || kind == FORCE ? 1 : 0;
        }

        static boolean hasNumber(int kind) {
            return kind == VARIABLE || kind == BUILTIN || kind == INTEGER || kind == TRUTH;
        }

        /** The number of BYTES is how many they are; a kind without a number has 0. */
        static boolean fits(int kind, long number) {
            switch (kind) {
                case VARIABLE:
                    return number >= 1 && number <= MAX_VARIABLE;
                case BUILTIN:
                    return number >= 0 && number <= MAX_BUILTIN;
                case INTEGER:
                    return true;
                case BYTES:
                    return number >= 0 && number <= MAX_BYTES;
                case TRUTH:
                    return number == 0 || number == 1;
                default:
                    return number == 0;
            }
        }

        /** How many bytes a NODE has by itself, without what it is of. */
        static int ownLength(int kind, long number) {
            switch (kind) {
                case VARIABLE:
                    return 1 + unsignedGroups(number);
                case INTEGER:
                    return 1 + signedGroups(number);
                case BYTES:
                    return 2 + (int) number;
                case BUILTIN:
                case TRUTH:
                    return 2;
                default:
                    return 1;
            }
        }

        static int unsignedGroups(long number) {
            for (int n = 1; n < MAX_UNSIGNED_GROUPS; n++) {
                if (number >>> (7 * n) == 0) {
                    return n;
                }
            }
            return MAX_UNSIGNED_GROUPS;
        }

        static int signedGroups(long number) {
            for (int n = 1; n < MAX_SIGNED_GROUPS; n++) {
                // The sign stands in the last group too, so n groups hold 7n - 1 bits beside it.
                long above = number >> (7 * n - 1);
                if (above == 0 || above == -1) {
                    return n;
                }
            }
            return MAX_SIGNED_GROUPS;
        }

        /** Byte i of a long, the lowest being 0. */
        static int byteOf(long v, int i) {
            return (int) (v >>> (8 * i)) & 255;
        }
    }

    /** Up to 4096 bytes. */
    private static final class ByteRow {
        private final byte[] row = new byte[MAX_ROW];
        int size = 0;

        int room() {
            return MAX_ROW - size;
        }

        int get(int i) {
            return i < 0 || i >= size ? NONE : row[i] & 255;
        }

        void append(int b) {
            if (size < MAX_ROW) {
                row[size] = (byte) b;
                size++;
            }
        }

        /** The low groups of a number, the lowest first; both U and S are written so. */
        void appendGroups(long number, int groups) {
            for (int i = 0; i < groups; i++) {
                int group = (int) (number >> (7 * i)) & 127;
                append(i < groups - 1 ? group | 128 : group);
            }
        }

        void copyFrom(ByteRow other) {
            System.arraycopy(other.row, 0, row, 0, other.size);
            size = other.size;
        }
    }

    /**
     * The TERMS, one behind the other, each as its NODES in the order of their numbers. What is kept
     * of a NODE never depends on what is around it, so that a TERM can be moved as it is.
     */
    private static final class TermStack {
        /** BYTES are packed into longs, since a byte each for all NODES would fill the room. */
        private static final int WORDS = MAX_BYTES / 8;

        final int[] kinds = new int[MAX_NODES];
        final long[] numbers = new long[MAX_NODES];
        final long[] words = new long[MAX_NODES * WORDS];
        final int[] sizes = new int[MAX_NODES];
        final int[] depths = new int[MAX_NODES];
        final int[] lacks = new int[MAX_NODES];
        final int[] lengths = new int[MAX_NODES];
        final int[] roots = new int[MAX_NODES];
        int terms = 0;
        int nodes = 0;

        /** The place of NODE 0 of TERM t, the deepest being 0, or NONE. */
        private int rootOf(int t) {
            if (t < 0 || t >= terms || t >= MAX_NODES) {
                return NONE;
            }
            return isPlace(roots[t]) ? roots[t] : NONE;
        }

        /** The place of the last TERM's NODE 0, or NONE. */
        int lastRoot() {
            return rootOf(terms - 1);
        }

        /** The place of the last TERM's NODE k, or NONE. */
        int find(int k) {
            int root = lastRoot();
            if (root < 0 || k < 0 || k >= sizes[root]) {
                return NONE;
            }
            return isPlace(root + k) ? root + k : NONE;
        }

        private static boolean isPlace(int i) {
            return i >= 0 && i < MAX_NODES;
        }

        int lastLength() {
            int root = lastRoot();
            return root < 0 ? NONE : lengths[root];
        }

        /** The number of the NODE that the last TERM's NODE k is of at once. */
        int parentOf(int k) {
            int i = find(k);
            int root = lastRoot();
            // All that NODE k is of reach over it; the nearest of them is the one at once.
            for (int j = i - 1; j >= root && j >= 0; j--) {
                if (j + sizes[j] > i) {
                    return j - root;
                }
            }
            return NONE;
        }

        int byteCount(int i) {
            return kinds[i] == BYTES ? (int) numbers[i] : NONE;
        }

        int byteIn(int i, int j) {
            int word = i * WORDS + j / 8;
            return word < 0 || word >= words.length ? NONE : Format.byteOf(words[word], 7 - j % 8);
        }

        void setByte(int i, int j, int b) {
            int word = i * WORDS + j / 8;
            int shift = 8 * (7 - j % 8);
            if (word >= 0 && word < words.length) {
                words[word] = (words[word] & ~(255L << shift)) | ((long) b << shift);
            }
        }

        void setNode(int i, int kind, long number) {
            kinds[i] = kind;
            numbers[i] = number;
        }

        /** A new NODE of the last TERMS; false if they are too few or too deep, or there is no room. */
        boolean put(int kind, long number) {
            int parts = Format.partsOf(kind);
            if (terms < parts || nodes >= MAX_NODES) {
                return false;
            }
            for (int t = terms - parts; t < terms; t++) {
                int part = rootOf(t);
                if (part < 0 || depths[part] >= MAX_DEPTH) {
                    return false;
                }
            }
            int root = parts == 0 ? nodes : rootOf(terms - parts);
            copyNodes(root, root + 1, nodes - root);
            setNode(root, kind, number);
            settle(root);
            nodes++;
            terms -= parts;
            pushTerm(root);
            return true;
        }

        /** The last TERM gets the n lowest bytes of part; false if it is not BYTES or has no room. */
        boolean extend(long part, int n) {
            int root = lastRoot();
            if (root < 0 || kinds[root] != BYTES || n > MAX_BYTES - byteCount(root)) {
                return false;
            }
            int count = byteCount(root);
            for (int j = 0; j < n; j++) {
                setByte(root, count + j, Format.byteOf(part, n - 1 - j));
            }
            numbers[root] = count + n;
            settle(root);
            return true;
        }

        boolean removeLast() {
            int root = lastRoot();
            if (root < 0) {
                return false;
            }
            nodes = root;
            terms--;
            return true;
        }

        boolean repeatLast() {
            int root = lastRoot();
            if (root < 0 || sizes[root] > MAX_NODES - nodes) {
                return false;
            }
            copyNodes(root, nodes, sizes[root]);
            pushTerm(nodes);
            nodes += sizes[root];
            return true;
        }

        /** The last TERM's parts in its place: how many they are, or NONE. */
        int openLast() {
            int root = lastRoot();
            if (root < 0 || Format.partsOf(kinds[root]) == 0) {
                return NONE;
            }
            int parts = Format.partsOf(kinds[root]);
            copyNodes(root + 1, root, nodes - root - 1);
            nodes--;
            terms--;
            int part = root;
            for (int p = 0; p < parts && isPlace(part); p++) {
                pushTerm(part);
                part += sizes[part];
            }
            return parts;
        }

        /** The NODES set from the last TERM's end up to this place become a TERM. */
        void adopt(int end) {
            // What a NODE is of stands behind it, and must be settled before it.
            for (int i = Math.min(end, MAX_NODES) - 1; i >= nodes; i--) {
                settle(i);
            }
            pushTerm(nodes);
            nodes = end;
        }

        boolean lastTwoAlike() {
            int one = rootOf(terms - 2);
            int other = rootOf(terms - 1);
            if (one < 0 || other < 0 || sizes[one] != sizes[other]) {
                return false;
            }
            for (int k = 0; k < sizes[one] && isPlace(one + k) && isPlace(other + k); k++) {
                if (!alike(one + k, other + k)) {
                    return false;
                }
            }
            return true;
        }

        void appendNode(int i, ByteRow row) {
            int kind = kinds[i];
            long number = numbers[i];
            row.append(kind);
            if (kind == VARIABLE) {
                row.appendGroups(number, Format.unsignedGroups(number));
            } else if (kind == INTEGER) {
                row.appendGroups(number, Format.signedGroups(number));
            } else if (kind == BUILTIN || kind == TRUTH || kind == BYTES) {
                row.append((int) number);
            }
            for (int j = 0; j < byteCount(i); j++) {
                row.append(byteIn(i, j));
            }
        }

        private boolean alike(int i, int j) {
            if (kinds[i] != kinds[j] || numbers[i] != numbers[j]) {
                return false;
            }
            for (int b = 0; b < byteCount(i); b++) {
                if (byteIn(i, b) != byteIn(j, b)) {
                    return false;
                }
            }
            return true;
        }

        private void pushTerm(int root) {
            if (terms < MAX_NODES) {
                roots[terms] = root;
                terms++;
            }
        }

        /** Finds what is kept of a NODE beside its kind and number, from the settled NODES it is of. */
        private void settle(int i) {
            int kind = kinds[i];
            int size = 1;
            int depth = 0;
            int lack = kind == VARIABLE ? (int) numbers[i] : 0;
            int length = Format.ownLength(kind, numbers[i]);
            int parts = Format.partsOf(kind);
            for (int p = 0; p < parts && i + size < MAX_NODES; p++) {
                int part = i + size;
                depth = Math.max(depth, depths[part]);
                lack = Math.max(lack, lacks[part]);
                length += lengths[part];
                size += sizes[part];
            }
            sizes[i] = size;
            depths[i] = depth + 1;
            lacks[i] = kind == LAMBDA && lack > 0 ? lack - 1 : lack;
            lengths[i] = length;
        }

        private void copyNodes(int from, int to, int count) {
            if (from < 0 || to < 0 || count < 0 || Math.max(from, to) > MAX_NODES - count) {
                return;
            }
            System.arraycopy(kinds, from, kinds, to, count);
            System.arraycopy(numbers, from, numbers, to, count);
            System.arraycopy(words, from * WORDS, words, to * WORDS, count * WORDS);
            System.arraycopy(sizes, from, sizes, to, count);
            System.arraycopy(depths, from, depths, to, count);
            System.arraycopy(lacks, from, lacks, to, count);
            System.arraycopy(lengths, from, lengths, to, count);
        }
    }

    /**
     * Reads NODES behind the last TERM's end, where the stack has none yet, so that a fault has
     * nothing to take back.
     */
    private static final class Reader {
        /** A NODE waits at most once for each level around the one that is read, and twice there. */
        private static final int MAX_WAITING = MAX_DEPTH + 1;

        private final ByteRow input;
        private final TermStack stack;
        private final int[] waitingLevels = new int[MAX_WAITING];
        private final int[] waitingLambdas = new int[MAX_WAITING];
        private int waiting = 0;
        private int next = 0;
        int at = 0;
        int fault = 0;
        int place = NONE;

        Reader(ByteRow input, TermStack stack) {
            this.input = input;
            this.stack = stack;
        }

        int readTerm() {
            if (at >= input.size) {
                return NONE;
            }
            fault = 0;
            place = NONE;
            next = at;
            waiting = 0;
            await(1, 1, 0);
            int end = stack.nodes;
            // One round more than there is room for: it finds the fault of the NODE without room.
            for (int i = stack.nodes; i <= MAX_NODES && waiting > 0 && fault == 0; i++) {
                readNode(i);
                end = i + 1;
            }
            if (fault == 0) {
                stack.adopt(end);
                at = next;
            }
            return fault;
        }

        private void readNode(int i) {
            int start = next;
            int kind = takeByte();
            waiting--;
            int level = waitingLevels[waiting];
            int lambdas = waitingLambdas[waiting];
            if (!Format.isKind(kind)) {
                fail(FAULT_VALUE, start);
            }
            if (level > MAX_DEPTH) {
                fail(FAULT_DEPTH, start);
            }
            if (i >= MAX_NODES) {
                fail(FAULT_ROOM, start);
            }
            if (fault == 0) {
                readNumber(i, kind, lambdas);
                await(Format.partsOf(kind), level + 1, kind == LAMBDA ? lambdas + 1 : lambdas);
            }
        }

        private void readNumber(int i, int kind, int lambdas) {
            int start = next - 1;
            long number = takeNumber(kind);
            if (!Format.fits(kind, number)) {
                fail(FAULT_VALUE, next - 1);
            }
            if (kind == VARIABLE && number > lambdas) {
                fail(FAULT_UNBOUND, start);
            }
            stack.setNode(i, kind, number);
            if (kind == BYTES) {
                for (int j = 0; j < number && j < MAX_BYTES && fault == 0; j++) {
                    stack.setByte(i, j, takeByte());
                }
            }
        }

        private long takeNumber(int kind) {
            switch (kind) {
                case VARIABLE:
                    return takeUnsigned();
                case INTEGER:
                    return takeSigned();
                case BUILTIN:
                case TRUTH:
                case BYTES:
                    return takeByte();
                default:
                    return 0;
            }
        }

        private long takeUnsigned() {
            long number = 0;
            int n = 0;
            int b = 128;
            while (b >= 128 && n < MAX_UNSIGNED_GROUPS) {
                b = takeByte();
                number |= (long) (b & 127) << (7 * n);
                n++;
            }
            if (b >= 128 || number > MAX_UNSIGNED || Format.unsignedGroups(number) != n) {
                fail(FAULT_FORM, next - 1);
            }
            return number;
        }

        private long takeSigned() {
            long number = 0;
            int n = 0;
            int b = 128;
            while (b >= 128 && n < MAX_SIGNED_GROUPS) {
                b = takeByte();
                number |= (long) (b & 127) << (7 * n);
                n++;
            }
            boolean full = n == MAX_SIGNED_GROUPS;
            if (!full && (b & 64) != 0) {
                number |= -1L << (7 * n);
            }
            // Of the tenth group a long has the lowest bit alone: the others must be its sign.
            boolean isLong = !full || b == 0 || b == 127;
            if (!isLong || Format.signedGroups(number) != n) {
                fail(FAULT_FORM, next - 1);
            }
            return number;
        }

        /** The next byte; at the end it is a fault, and 0, which lets every loop over bytes end. */
        private int takeByte() {
            int b = input.get(next);
            if (b < 0) {
                fail(FAULT_END, input.size);
                return 0;
            }
            next++;
            return b;
        }

        private void await(int parts, int level, int lambdas) {
            for (int p = 0; p < parts && waiting < MAX_WAITING; p++) {
                waitingLevels[waiting] = level;
                waitingLambdas[waiting] = lambdas;
                waiting++;
            }
        }

        /** Keeps the first fault alone, so that what is looked at behind it does no harm. */
        private void fail(int number, int where) {
            if (fault == 0) {
                fault = number;
                place = where;
            }
        }
    }
}
