import java.math.BigInteger;
import java.util.ArrayList;
import java.util.Arrays;
import java.util.List;

/**
 * The document once more, as trees and big numbers and by recursion: slow and plain, and made in
 * another way than TermCodec, so that both hardly have the same mistake.
 */
final class Model {
    private static final int NONE = -1;

    /** A term; it never changes. */
    private static final class Tree {
        final int kind;
        final long number;
        final List<Integer> data;
        final List<Tree> parts;

        Tree(int kind, long number, List<Integer> data, List<Tree> parts) {
            this.kind = kind;
            this.number = number;
            this.data = data;
            this.parts = parts;
        }

        List<Tree> all() {
            List<Tree> list = new ArrayList<>();
            list.add(this);
            for (Tree part : parts) {
                list.addAll(part.all());
            }
            return list;
        }

        int depth() {
            int most = 0;
            for (Tree part : parts) {
                most = Math.max(most, part.depth());
            }
            return most + 1;
        }

        int lacks(int around) {
            if (kind == 0) {
                return (int) Math.max(0, number - around);
            }
            int most = 0;
            for (Tree part : parts) {
                most = Math.max(most, part.lacks(kind == 1 ? around + 1 : around));
            }
            return most;
        }

        List<Integer> code() {
            List<Integer> list = new ArrayList<>();
            list.add(kind);
            if (kind == 0) {
                list.addAll(groups(number, Math.max(1, (bits(number) + 6) / 7)));
            } else if (kind == 7) {
                list.addAll(groups(number, bits(number) / 7 + 1));
            } else if (kind == 6 || kind == 9) {
                list.add((int) number);
            } else if (kind == 8) {
                list.add(data.size());
                list.addAll(data);
            }
            for (Tree part : parts) {
                list.addAll(part.code());
            }
            return list;
        }
    }

    private static final class Fault extends RuntimeException {
        private static final long serialVersionUID = 1;
        final int number;
        final int place;

        Fault(int number, int place) {
            this.number = number;
            this.place = place;
        }
    }

    private final List<Tree> stack = new ArrayList<>();
    private final List<Integer> out = new ArrayList<>();
    private List<Integer> in = new ArrayList<>();
    private int at = 0;
    private int fault = 0;
    private int place = NONE;
    private int next;
    private int count;

    private static int bits(long number) {
        return BigInteger.valueOf(number).bitLength();
    }

    private static List<Integer> groups(long number, int n) {
        List<Integer> list = new ArrayList<>();
        BigInteger rest = BigInteger.valueOf(number);
        for (int i = 0; i < n; i++) {
            list.add(rest.and(BigInteger.valueOf(127)).intValue() + (i < n - 1 ? 128 : 0));
            rest = rest.shiftRight(7);
        }
        return list;
    }

    private static List<Integer> lowest(long v, int n) {
        List<Integer> list = new ArrayList<>();
        for (int i = 0; i < n; i++) {
            list.add(0, (int) (v & 255));
            v >>>= 8;
        }
        return list;
    }

    private static int arity(int kind) {
        return kind == 2 ? 2 : Arrays.asList(1, 3, 4).contains(kind) ? 1 : 0;
    }

    private int nodes() {
        int sum = 0;
        for (Tree t : stack) {
            sum += t.all().size();
        }
        return sum;
    }

    private Tree last() {
        return stack.isEmpty() ? null : stack.get(stack.size() - 1);
    }

    private Tree nodeOf(int k) {
        if (last() == null || k < 0 || k >= last().all().size()) {
            return null;
        }
        return last().all().get(k);
    }

    void clear() {
        stack.clear();
    }

    private static boolean allowed(int kind, long arg) {
        switch (kind) {
            case 0: return 1 <= arg && arg <= 200;
            case 6: return 0 <= arg && arg <= 31;
            case 7: return true;
            case 9: return arg == 0 || arg == 1;
            case 1: case 2: case 3: case 4: case 5: case 10: case 11: return arg == 0;
            default: return false;
        }
    }

    int node(int kind, long arg) {
        if (!allowed(kind, arg)) {
            throw new IllegalArgumentException();
        }
        int n = arity(kind);
        if (stack.size() < n || nodes() == 200) {
            throw new IllegalStateException();
        }
        List<Tree> top = stack.subList(stack.size() - n, stack.size());
        Tree tree = new Tree(kind, arg, null, new ArrayList<>(top));
        if (tree.depth() > 60) {
            throw new IllegalStateException();
        }
        top.clear();
        stack.add(tree);
        return stack.size();
    }

    int bytes(long part, int n) {
        if (n < 0 || n > 8) {
            throw new IllegalArgumentException();
        }
        if (nodes() == 200) {
            throw new IllegalStateException();
        }
        stack.add(new Tree(8, 0, lowest(part, n), new ArrayList<>()));
        return stack.size();
    }

    boolean more(long part, int n) {
        if (n < 1 || n > 8 || last() == null || last().kind != 8 || last().data.size() + n > 64) {
            return false;
        }
        List<Integer> data = new ArrayList<>(last().data);
        data.addAll(lowest(part, n));
        stack.set(stack.size() - 1, new Tree(8, 0, data, new ArrayList<>()));
        return true;
    }

    boolean drop() {
        if (stack.isEmpty()) {
            return false;
        }
        stack.remove(stack.size() - 1);
        return true;
    }

    boolean twice() {
        if (stack.isEmpty() || nodes() + last().all().size() > 200) {
            return false;
        }
        stack.add(last());
        return true;
    }

    int split() {
        if (stack.isEmpty() || last().parts.isEmpty()) {
            return NONE;
        }
        Tree tree = stack.remove(stack.size() - 1);
        stack.addAll(tree.parts);
        return tree.parts.size();
    }

    int write() {
        if (stack.isEmpty() || out.size() + last().code().size() > 4096) {
            return NONE;
        }
        out.addAll(last().code());
        return out.size();
    }

    void wipe() {
        out.clear();
    }

    boolean give(long v, int n) {
        if (n < 1 || n > 8 || in.size() + n > 4096) {
            return false;
        }
        in.addAll(lowest(v, n));
        return true;
    }

    boolean cut(int n) {
        if (n < 0 || n > in.size()) {
            return false;
        }
        in = new ArrayList<>(in.subList(0, n));
        at = 0;
        return true;
    }

    void turn() {
        in = new ArrayList<>(out);
        at = 0;
    }

    int read() {
        if (at == in.size()) {
            return NONE;
        }
        next = at;
        count = nodes();
        try {
            Tree tree = readTree(1, 0);
            stack.add(tree);
            at = next;
            fault = 0;
            place = NONE;
        } catch (Fault f) {
            fault = f.number;
            place = f.place;
        }
        return fault;
    }

    private int take() {
        if (next == in.size()) {
            throw new Fault(1, in.size());
        }
        return in.get(next++);
    }

    private Tree readTree(int level, int lambdas) {
        int kind = take();
        int start = next - 1;
        if (kind > 11) {
            throw new Fault(3, start);
        }
        if (level > 60) {
            throw new Fault(5, start);
        }
        count++;
        if (count > 200) {
            throw new Fault(6, start);
        }
        long number = 0;
        if (kind == 0) {
            number = takeNumber(5, false);
        } else if (kind == 7) {
            number = takeNumber(10, true);
        } else if (kind == 6 || kind == 8 || kind == 9) {
            number = take();
        }
        if (kind == 8 ? number > 64 : !allowed(kind, number)) {
            throw new Fault(3, next - 1);
        }
        if (kind == 0 && number > lambdas) {
            throw new Fault(4, start);
        }
        List<Integer> data = new ArrayList<>();
        for (int i = 0; kind == 8 && i < number; i++) {
            data.add(take());
        }
        List<Tree> parts = new ArrayList<>();
        for (int i = 0; i < arity(kind); i++) {
            parts.add(readTree(level + 1, kind == 1 ? lambdas + 1 : lambdas));
        }
        return new Tree(kind, kind == 8 ? 0 : number, data, parts);
    }

    private long takeNumber(int most, boolean signed) {
        List<Integer> seen = new ArrayList<>();
        BigInteger sum = BigInteger.ZERO;
        do {
            int b = take();
            sum = sum.add(BigInteger.valueOf(b & 127).shiftLeft(7 * seen.size()));
            seen.add(b);
            if (b >= 128 && seen.size() == most) {
                throw new Fault(2, next - 1);
            }
        } while (seen.get(seen.size() - 1) >= 128);
        if (signed && (seen.get(seen.size() - 1) & 64) != 0) {
            sum = sum.subtract(BigInteger.ONE.shiftLeft(7 * seen.size()));
        }
        if (sum.bitLength() > (signed ? 63 : 31)) {
            throw new Fault(2, next - 1);
        }
        List<Integer> fewest = new Tree(signed ? 7 : 0, sum.longValue(), null, new ArrayList<>()).code();
        if (fewest.size() - 1 != seen.size()) {
            throw new Fault(2, next - 1);
        }
        return sum.longValue();
    }

    int of(int k, int w) {
        Tree tree = nodeOf(k);
        if (tree == null) {
            return NONE;
        }
        switch (w) {
            case 0: return tree.kind;
            case 1: return tree.all().size();
            case 2: return tree.depth();
            case 3: return tree.lacks(0);
            case 4: return parents(last()).get(k);
            case 5: return tree.kind == 8 ? tree.data.size() : NONE;
            default: return NONE;
        }
    }

    private static List<Integer> parents(Tree tree) {
        List<Integer> list = new ArrayList<>();
        list.add(NONE);
        for (Tree part : tree.parts) {
            int offset = list.size();
            for (int p : parents(part)) {
                list.add(p == NONE ? 0 : p + offset);
            }
        }
        return list;
    }

    long number(int k) {
        Tree tree = nodeOf(k);
        if (tree == null || !Arrays.asList(0, 6, 7, 9).contains(tree.kind)) {
            throw new IllegalArgumentException();
        }
        return tree.number;
    }

    int byteAt(int k, int j) {
        Tree tree = nodeOf(k);
        return tree == null || tree.kind != 8 || j < 0 || j >= tree.data.size() ? NONE : tree.data.get(j);
    }

    boolean same() {
        if (stack.size() < 2) {
            throw new IllegalStateException();
        }
        return last().code().equals(stack.get(stack.size() - 2).code());
    }

    int output(int k) {
        return k < 0 || k >= out.size() ? NONE : out.get(k);
    }

    int look(int which) {
        switch (which) {
            case 0: return stack.size();
            case 1: return nodes();
            case 2: return out.size();
            case 3: return in.size();
            case 4: return at;
            case 5: return fault;
            case 6: return place;
            case 7: return last() == null ? NONE : last().code().size();
            default: return NONE;
        }
    }
}
