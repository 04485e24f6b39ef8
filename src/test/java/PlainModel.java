import java.util.Arrays;

/** The whole document once more: keeps all bytes as they came, and works every answer out anew. */
final class PlainModel {
    private final byte[][] registers = new byte[8][0];
    private final byte[][] taken = new byte[4][0];
    private final int[][] keys = new int[4][];
    private final int[] modes = new int[4];
    private byte[] file = {};
    private byte[] proof = {};

    PlainModel() {
        Arrays.fill(keys, PlainTree.start());
    }

    private static boolean out(long number, long least, long most) {
        return number < least || number > most;
    }

    private static byte[] joined(byte[] a, byte[] b) {
        byte[] all = Arrays.copyOf(a, a.length + b.length);
        System.arraycopy(b, 0, all, a.length, b.length);
        return all;
    }

    int base(int h) {
        return new int[] {0, 16, 64}[modes[h]];
    }

    int fileLength() {
        return file.length;
    }

    int proofLength() {
        return proof.length;
    }

    int add(int r, int n, long w) {
        if (out(r, 0, 7) || out(n, 1, 8)) {
            return -2;
        }
        if (registers[r].length + n > 200) {
            return -3;
        }
        byte[] some = new byte[n];
        for (int i = 0; i < n; i++) {
            some[i] = (byte) (w >> (8 * i));
        }
        registers[r] = joined(registers[r], some);
        return registers[r].length;
    }

    int clear(int r) {
        if (out(r, 0, 7)) {
            return -2;
        }
        int had = registers[r].length;
        registers[r] = new byte[0];
        return had;
    }

    int size(int r) {
        return out(r, 0, 7) ? -2 : registers[r].length;
    }

    int at(int r, int i) {
        return out(r, 0, 7) ? -2 : out(i, 0, registers[r].length - 1) ? -1 : registers[r][i] & 255;
    }

    int begin(int h, int mode, int r) {
        if (out(h, 0, 3) || out(mode, 0, 2) || mode > 0 && out(r, 0, 7)) {
            return -2;
        }
        if (mode == 1 && registers[r].length != 32) {
            return -2;
        }
        keys[h] = mode == 0 ? PlainTree.start()
            : mode == 1 ? PlainTree.words(registers[r]) : PlainTree.contextKey(registers[r]);
        modes[h] = mode;
        taken[h] = new byte[0];
        return 0;
    }

    int take(int h, int r) {
        return out(h, 0, 3) || out(r, 0, 7) ? -2 : takeIn(h, registers[r]);
    }

    int fill(int h, int n, int from, int step) {
        return out(h, 0, 3) || out(n, 0, 5000) ? -2 : takeIn(h, Due.steps(n, from, step));
    }

    private int takeIn(int h, byte[] some) {
        if (taken[h].length + some.length > 40000) {
            return -3;
        }
        taken[h] = joined(taken[h], some);
        return taken[h].length;
    }

    int output(int h, int to, int n, long place) {
        if (out(h, 0, 3) || out(to, 0, 7) || out(n, 0, 200) || out(place, 0, 4611686018427387904L)) {
            return -2;
        }
        registers[to] = PlainTree.output(taken[h], keys[h], base(h), n, place);
        return n;
    }

    int copy(int from, int to) {
        if (out(from, 0, 3) || out(to, 0, 3)) {
            return -2;
        }
        taken[to] = taken[from];
        keys[to] = keys[from];
        modes[to] = modes[from];
        return taken[to].length;
    }

    private int closed(int h) {
        return PlainTree.chunks(taken[h].length) - 1;
    }

    int told(int h, int what) {
        if (out(h, 0, 3) || out(what, 0, 4)) {
            return -2;
        }
        int bytes = taken[h].length;
        int closed = closed(h);
        return new int[] {modes[h], bytes, closed, Integer.bitCount(closed), bytes - 1024 * closed}[what];
    }

    int chain(int h, int i, int k) {
        if (out(h, 0, 3)) {
            return -2;
        }
        int left = closed(h);
        if (out(k, 0, 7) || out(i, 0, Integer.bitCount(left) - 1)) {
            return 0;
        }
        int first = 0;
        for (int skipped = 0; skipped < i; skipped++) {
            first += Integer.highestOneBit(left);
            left -= Integer.highestOneBit(left);
        }
        int last = first + Integer.highestOneBit(left);
        byte[] part = Arrays.copyOfRange(taken[h], 1024 * first, 1024 * last);
        return PlainTree.last(part, keys[h], base(h), first, -1)[k];
    }

    int grow(int n, int from, int step) {
        if (out(n, 1, 5000)) {
            return -2;
        }
        if (file.length + n > 20000) {
            return -3;
        }
        file = joined(file, Due.steps(n, from, step));
        return file.length;
    }

    int spoil(int i, int x) {
        return changed(file, i, x);
    }

    private static int changed(byte[] bytes, int i, int x) {
        if (out(i, 0, bytes.length - 1) || out(x, 0, 255)) {
            return -2;
        }
        bytes[i] ^= (byte) x;
        return bytes[i] & 255;
    }

    int shorten(int n) {
        if (out(n, 0, file.length)) {
            return -2;
        }
        int went = file.length - n;
        file = Arrays.copyOf(file, n);
        return went;
    }

    int root(int to) {
        if (out(to, 0, 7)) {
            return -2;
        }
        registers[to] = PlainTree.plainHash(file);
        return file.length;
    }

    int prove(int c) {
        if (out(c, 0, PlainTree.chunks(file.length) - 1)) {
            return -2;
        }
        proof = proofOf(file, c);
        return proof.length;
    }

    static byte[] proofOf(byte[] file, int c) {
        byte[] own = Arrays.copyOfRange(file, 1024 * c, Math.min(file.length, 1024 * c + 1024));
        return joined(own, others(file, 0, c));
    }

    /** The chains of the others, from the root of some bytes, whose first chunk has a number, down to c. */
    private static byte[] others(byte[] bytes, int first, int c) {
        int chunks = PlainTree.chunks(bytes.length);
        if (chunks == 1) {
            return new byte[0];
        }
        int middle = first + PlainTree.left(chunks);
        byte[] left = Arrays.copyOfRange(bytes, 0, 1024 * PlainTree.left(chunks));
        byte[] right = Arrays.copyOfRange(bytes, left.length, bytes.length);
        if (c < middle) {
            return joined(chainBytes(right, middle), others(left, first, c));
        }
        return joined(chainBytes(left, first), others(right, middle, c));
    }

    private static byte[] chainBytes(byte[] part, int first) {
        return PlainTree.bytes(Arrays.copyOf(PlainTree.last(part, PlainTree.start(), 0, first, -1), 8));
    }

    int proof(int i) {
        return out(i, 0, proof.length - 1) ? -1 : proof[i] & 255;
    }

    int forge(int i, int x) {
        return changed(proof, i, x);
    }

    int cut(int n) {
        if (out(n, 0, proof.length)) {
            return -2;
        }
        int went = proof.length - n;
        proof = Arrays.copyOf(proof, n);
        return went;
    }

    int check(int r, int length, int c) {
        if (out(r, 0, 7) || registers[r].length != 32 || out(length, 0, 1000000)) {
            return -2;
        }
        if (out(c, 0, PlainTree.chunks(length) - 1)) {
            return -2;
        }
        if (proof.length != proofSize(length, c)) {
            return 0;
        }
        return Arrays.equals(rootOf(proof, length, c), registers[r]) ? 1 : 0;
    }

    static int ownBytes(int length, int c) {
        return Math.min(length, 1024 * c + 1024) - 1024 * c;
    }

    static int proofSize(int length, int c) {
        return ownBytes(length, c) + 32 * levels(PlainTree.chunks(length), c);
    }

    private static int levels(int chunks, int c) {
        if (chunks == 1) {
            return 0;
        }
        int left = PlainTree.left(chunks);
        return 1 + (c < left ? levels(left, c) : levels(chunks - left, c - left));
    }

    /** The first 32 bytes of the root that comes of a proof of the right size. */
    static byte[] rootOf(byte[] proof, int length, int c) {
        int own = ownBytes(length, c);
        byte[] chunk = Arrays.copyOf(proof, own);
        int[] chains = PlainTree.words(Arrays.copyOfRange(proof, own, proof.length));
        return PlainTree.bytes(climbed(chunk, chains, 0, PlainTree.chunks(length), c, c));
    }

    /** The chain of the tree of some chunks, inside of which the proven one is chunk c; level 0 is the root. */
    private static int[] climbed(byte[] chunk, int[] chains, int level, int chunks, int c, int number) {
        if (chunks == 1) {
            return Arrays.copyOf(PlainTree.last(chunk, PlainTree.start(), 0, number, level == 0 ? 0 : -1), 8);
        }
        int left = PlainTree.left(chunks);
        boolean isLeft = c < left;
        int[] on = climbed(chunk, chains, level + 1, isLeft ? left : chunks - left, isLeft ? c : c - left, number);
        int[] block = new int[16];
        System.arraycopy(on, 0, block, isLeft ? 0 : 8, 8);
        System.arraycopy(chains, 8 * level, block, isLeft ? 8 : 0, 8);
        return Arrays.copyOf(PlainTree.mix(PlainTree.start(), block, 0, 64, level == 0 ? 12 : 4), 8);
    }
}
