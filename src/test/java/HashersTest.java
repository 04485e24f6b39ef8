import java.util.Arrays;

/** Promises 6 to 12: the hashers. */
public final class HashersTest {
    private static final Due due = new Due("HashersTest");
    private static final int[] NO_HASHERS = {-1, 4, 5, Integer.MIN_VALUE, Integer.MAX_VALUE};
    private static final int[] NO_REGISTERS = {-1, 8, 9, Integer.MIN_VALUE, Integer.MAX_VALUE};

    public static void main(String[] args) {
        severalHashersBitByBit();
        promise6BeginKeyed();
        promise6BeginContext();
        promise6BeginAnew();
        promise6BeginWrong();
        promise7Take();
        promise7TakeWrong();
        promise7TakeUpToTheLimit();
        promise8Fill();
        promise8FillUpToTheLimit();
        promise8FillWrong();
        promise9OutputOfManyLengths();
        promise9OutputFromAnyPlace();
        promise9OutputLeavesTheHasher();
        promise9OutputWrong();
        promise10Copy();
        promise11Told();
        promise12Chain();
        promise12ChainWrong();
        due.end();
    }

    private static void outputIs(String what, TreeHashes x, int h, byte[] want) {
        due.is("output: " + what, x.output(h, 7, want.length, 0), want.length);
        due.is(what, Due.hex(x, 7), Due.hex(want));
    }

    /** "taken in bit by bit by several hashers": in turns, and with all else that hashes between them. */
    private static void severalHashersBitByBit() {
        byte[] key = Due.steps(32, 1, 9);
        int[][] keys = {PlainTree.start(), PlainTree.words(key), PlainTree.contextKey(key), PlainTree.start()};
        int[] bases = {0, 16, 64, 0};
        byte[][] all = new byte[4][0];
        TreeHashes x = new TreeHashes();
        Due.put(x, 0, key);
        x.grow(3000, 5, 5);
        x.begin(1, 1, 0);
        x.begin(2, 2, 0);
        for (int turn = 0; turn < 40; turn++) {
            int h = turn % 4;
            int n = 7 + 37 * turn % 211;
            int had = all[h].length;
            all[h] = Arrays.copyOf(all[h], had + n);
            System.arraycopy(Due.steps(n, turn, h), 0, all[h], had, n);
            due.is("in turns: fill of hasher " + h, x.fill(h, n, turn, h), had + n);
            x.prove(turn % 3);
            x.root(1);
            due.is("in turns: check", x.check(1, 3000, turn % 3), 1);
            x.output((h + 1) % 4, 1, 70, turn);
        }
        for (int h = 0; h < 4; h++) {
            outputIs("in turns: hasher " + h, x, h, PlainTree.output(all[h], keys[h], bases[h], 40, 0));
        }
    }

    private static void promise6BeginKeyed() {
        byte[] key = Due.steps(32, 200, 3);
        int[] words = PlainTree.words(key);
        TreeHashes x = new TreeHashes();
        Due.put(x, 0, key);
        due.is("begin(2, 1, 0)", x.begin(2, 1, 0), 0);
        x.clear(0);
        outputIs("keyed, of nothing", x, 2, PlainTree.output(new byte[0], words, 16, 100, 0));
        x.fill(2, 3333, 7, 5);
        outputIs("keyed, of 3333", x, 2, PlainTree.output(Due.steps(3333, 7, 5), words, 16, 100, 0));
        due.is("keyed: told(2, 0)", x.told(2, 0), 1);
        due.is("keyed: another hasher's mode", x.told(1, 0), 0);
    }

    private static void promise6BeginContext() {
        for (int n : new int[] {0, 1, 32, 64, 65, 200}) {
            byte[] context = Due.steps(n, n, 11);
            int[] key = PlainTree.contextKey(context);
            TreeHashes x = new TreeHashes();
            Due.put(x, 6, context);
            x.fill(3, 100, 0, 0);
            due.is("begin(3, 2, 6) of " + n, x.begin(3, 2, 6), 0);
            due.is("context: told(3, 0)", x.told(3, 0), 2);
            due.is("context: told(3, 1)", x.told(3, 1), 0);
            due.is("context: the register stays", Due.hex(x, 6), Due.hex(context));
            outputIs("context " + n + ", of nothing", x, 3, PlainTree.output(new byte[0], key, 64, 70, 0));
            x.fill(3, 2049, 1, 1);
            outputIs("context " + n + ", of 2049", x, 3,
                PlainTree.output(Due.steps(2049, 1, 1), key, 64, 70, 0));
        }
    }

    private static void promise6BeginAnew() {
        TreeHashes x = new TreeHashes();
        Due.put(x, 0, Due.steps(32, 0, 1));
        x.begin(0, 1, 0);
        x.fill(0, 5000, 1, 2);
        for (int r : NO_REGISTERS) {
            due.is("begin(0, 0, " + r + ")", x.begin(0, 0, r), 0);
        }
        for (int what = 0; what <= 4; what++) {
            due.is("anew: told(0, " + what + ")", x.told(0, what), 0);
        }
        due.is("anew: chain(0, 0, 0)", x.chain(0, 0, 0), 0);
        outputIs("anew, of nothing", x, 0, PlainTree.plainHash(new byte[0]));
        x.fill(0, 70, 1, 1);
        due.is("begin(0, 0, 0)", x.begin(0, 0, 0), 0);
        x.fill(0, 10, 1, 1);
        outputIs("anew, of ten", x, 0, PlainTree.plainHash(Due.steps(10, 1, 1)));
    }

    private static void promise6BeginWrong() {
        TreeHashes x = new TreeHashes();
        Due.put(x, 0, Due.steps(32, 0, 1));
        Due.put(x, 1, Due.steps(31, 0, 1));
        Due.put(x, 2, Due.steps(33, 0, 1));
        x.begin(1, 1, 0);
        x.fill(1, 1500, 0, 1);
        for (int h : NO_HASHERS) {
            for (int mode = 0; mode <= 2; mode++) {
                due.is("begin(" + h + ", " + mode + ", 0)", x.begin(h, mode, 0), TreeHashes.BAD);
            }
        }
        for (int mode : new int[] {-1, 3, 4, Integer.MIN_VALUE, Integer.MAX_VALUE}) {
            due.is("begin(1, " + mode + ", 0)", x.begin(1, mode, 0), TreeHashes.BAD);
        }
        for (int r : NO_REGISTERS) {
            due.is("begin(1, 1, " + r + ")", x.begin(1, 1, r), TreeHashes.BAD);
            due.is("begin(1, 2, " + r + ")", x.begin(1, 2, r), TreeHashes.BAD);
        }
        for (int r : new int[] {1, 2, 3}) {
            due.is("begin(1, 1, " + r + "): not 32 bytes", x.begin(1, 1, r), TreeHashes.BAD);
        }
        due.is("begin: mode after BAD", x.told(1, 0), 1);
        due.is("begin: bytes after BAD", x.told(1, 1), 1500);
        outputIs("begin: hash after BAD", x, 1,
            PlainTree.output(Due.steps(1500, 0, 1), PlainTree.words(Due.steps(32, 0, 1)), 16, 32, 0));
    }

    private static void promise7Take() {
        TreeHashes x = new TreeHashes();
        byte[] all = new byte[0];
        for (int n : new int[] {0, 1, 63, 65, 64, 200, 199, 200, 200, 100}) {
            byte[] some = Due.steps(n, n, 7);
            Due.put(x, 4, some);
            int had = all.length;
            all = Arrays.copyOf(all, had + n);
            System.arraycopy(some, 0, all, had, n);
            due.is("take(1, 4) of " + n, x.take(1, 4), all.length);
            due.is("take: the register stays", x.size(4), n);
            outputIs("take: hash of " + all.length, x, 1, PlainTree.plainHash(all));
        }
        due.is("take: closed", x.told(1, 2), 1);
    }

    private static void promise7TakeWrong() {
        TreeHashes x = new TreeHashes();
        x.add(4, 5, 1);
        due.is("take(1, 4)", x.take(1, 4), 5);
        due.is("take: another hasher", x.told(0, 1), 0);
        for (int h : NO_HASHERS) {
            due.is("take(" + h + ", 4)", x.take(h, 4), TreeHashes.BAD);
        }
        for (int r : NO_REGISTERS) {
            due.is("take(1, " + r + ")", x.take(1, r), TreeHashes.BAD);
        }
        due.is("take: bytes after BAD", x.told(1, 1), 5);
    }

    private static void fillUpTo(TreeHashes x, int h, int n) {
        for (int had = x.told(h, 1); had < n; had += 5000) {
            x.fill(h, Math.min(5000, n - had), 3, 1);
        }
    }

    /** Hasher 0 takes in n bytes: which they are. */
    private static byte[] filled(TreeHashes x, int n) {
        byte[] all = new byte[n];
        for (int had = 0; had < n; had += 5000) {
            int piece = Math.min(5000, n - had);
            System.arraycopy(Due.steps(piece, had, 7), 0, all, had, piece);
            due.is("fill of " + piece, x.fill(0, piece, had, 7), had + piece);
        }
        return all;
    }

    private static void promise7TakeUpToTheLimit() {
        TreeHashes x = new TreeHashes();
        fillUpTo(x, 0, 39990);
        Due.put(x, 0, new byte[11]);
        Due.put(x, 1, new byte[10]);
        due.is("take: 39990 and 11", x.take(0, 0), TreeHashes.REFUSED);
        due.is("take: after REFUSED", x.told(0, 1), 39990);
        due.is("take: wrong at the limit", x.take(0, 8), TreeHashes.BAD);
        due.is("take: 39990 and 10", x.take(0, 1), 40000);
        due.is("take: 40000 and 10", x.take(0, 1), TreeHashes.REFUSED);
        due.is("take: 40000 and none", x.take(0, 2), 40000);
        due.is("take: another hasher", x.take(1, 1), 10);
    }

    private static void promise8Fill() {
        TreeHashes x = new TreeHashes();
        int[][] steps = {
            {0, 1}, {255, 1}, {-1, -1}, {256, 512}, {1000, 77}, {Integer.MAX_VALUE, 1},
            {Integer.MIN_VALUE, -1}, {5, Integer.MAX_VALUE}, {5, Integer.MIN_VALUE}
        };
        for (int[] s : steps) {
            x.begin(2, 0, 0);
            due.is("fill(2, 300, " + s[0] + ", " + s[1] + ")", x.fill(2, 300, s[0], s[1]), 300);
            outputIs("fill: hash of " + s[0] + " " + s[1], x, 2, PlainTree.plainHash(Due.steps(300, s[0], s[1])));
        }
        due.is("fill of none", x.fill(2, 0, 1, 1), 300);
        due.is("fill of 5000", x.fill(2, 5000, 1, 1), 5300);
        due.is("fill: another hasher", x.told(3, 1), 0);
    }

    private static void promise8FillUpToTheLimit() {
        TreeHashes x = new TreeHashes();
        fillUpTo(x, 3, 39999);
        due.is("fill: 39999 and 2", x.fill(3, 2, 0, 0), TreeHashes.REFUSED);
        due.is("fill: after REFUSED", x.told(3, 1), 39999);
        due.is("fill: 39999 and 1", x.fill(3, 1, 0, 0), 40000);
        due.is("fill: 40000 and 1", x.fill(3, 1, 0, 0), TreeHashes.REFUSED);
        due.is("fill: 40000 and 5001", x.fill(3, 5001, 0, 0), TreeHashes.BAD);
        due.is("fill: 40000 and none", x.fill(3, 0, 0, 0), 40000);
    }

    private static void promise8FillWrong() {
        TreeHashes x = new TreeHashes();
        x.fill(0, 10, 0, 1);
        for (int h : NO_HASHERS) {
            due.is("fill(" + h + ", 1, 0, 0)", x.fill(h, 1, 0, 0), TreeHashes.BAD);
        }
        for (int n : new int[] {-1, 5001, Integer.MIN_VALUE, Integer.MAX_VALUE}) {
            due.is("fill(0, " + n + ", 0, 0)", x.fill(0, n, 0, 0), TreeHashes.BAD);
        }
        due.is("fill: after BAD", x.told(0, 1), 10);
    }

    private static void promise9OutputOfManyLengths() {
        int[] lengths = {
            0, 1, 3, 4, 5, 63, 64, 65, 127, 128, 129, 1023, 1024, 1025, 1087, 1088, 2047, 2048, 2049, 3072,
            3073, 4096, 4097, 5120, 5121, 6145, 7169, 8192, 8193, 15361, 16384, 16385, 31744, 31745, 32768,
            32769, 33793, 39936, 39937, 40000
        };
        for (int n : lengths) {
            TreeHashes x = new TreeHashes();
            byte[] all = filled(x, n);
            outputIs("output of " + n, x, 0, PlainTree.output(all, PlainTree.start(), 0, 200, 0));
        }
    }

    private static void promise9OutputFromAnyPlace() {
        long[] places = {
            0, 1, 31, 32, 63, 64, 65, 127, 128, 4095, (1L << 31) - 1, 1L << 32, (1L << 38) - 1, (1L << 38) + 5,
            (1L << 38) - 100, (1L << 61) + 17, (1L << 62) - 199, (1L << 62) - 1, 1L << 62
        };
        for (int n : new int[] {0, 1000, 2500}) {
            byte[] all = Due.steps(n, 9, 9);
            for (long place : places) {
                TreeHashes x = new TreeHashes();
                x.fill(1, n, 9, 9);
                due.is("output of " + n + " at " + place, x.output(1, 3, 200, place), 200);
                due.is("output of " + n + " at " + place, Due.hex(x, 3),
                    Due.hex(PlainTree.output(all, PlainTree.start(), 0, 200, place)));
            }
        }
    }

    private static void promise9OutputLeavesTheHasher() {
        TreeHashes x = new TreeHashes();
        x.fill(0, 3000, 0, 1);
        Due.put(x, 5, Due.steps(150, 0, 1));
        due.is("output(0, 5, 0, 99)", x.output(0, 5, 0, 99), 0);
        due.is("output of none: size", x.size(5), 0);
        x.output(0, 5, 200, 0);
        due.is("output instead of what was", x.output(0, 5, 3, 0), 3);
        due.is("output instead: size", x.size(5), 3);
        due.is("output: told(0, 1)", x.told(0, 1), 3000);
        due.is("output: told(0, 2)", x.told(0, 2), 2);
        due.is("output: told(0, 3)", x.told(0, 3), 1);
        due.is("output: told(0, 4)", x.told(0, 4), 952);
        x.fill(0, 3000, 3000, 1);
        outputIs("output: more behind it", x, 0, PlainTree.plainHash(Due.steps(6000, 0, 1)));
    }

    private static void promise9OutputWrong() {
        TreeHashes x = new TreeHashes();
        Due.put(x, 0, Due.steps(5, 1, 1));
        for (int h : NO_HASHERS) {
            due.is("output(" + h + ", 0, 1, 0)", x.output(h, 0, 1, 0), TreeHashes.BAD);
        }
        for (int r : NO_REGISTERS) {
            due.is("output(0, " + r + ", 1, 0)", x.output(0, r, 1, 0), TreeHashes.BAD);
        }
        for (int n : new int[] {-1, 201, Integer.MIN_VALUE, Integer.MAX_VALUE}) {
            due.is("output(0, 0, " + n + ", 0)", x.output(0, 0, n, 0), TreeHashes.BAD);
        }
        for (long place : new long[] {-1, (1L << 62) + 1, Long.MIN_VALUE, Long.MAX_VALUE}) {
            due.is("output(0, 0, 1, " + place + ")", x.output(0, 0, 1, place), TreeHashes.BAD);
            due.is("output(0, 0, 0, " + place + ")", x.output(0, 0, 0, place), TreeHashes.BAD);
        }
        due.is("output: after BAD", Due.hex(x, 0), "0102030405");
    }

    private static void promise10Copy() {
        TreeHashes x = new TreeHashes();
        byte[] key = Due.steps(32, 9, 9);
        int[] words = PlainTree.words(key);
        Due.put(x, 0, key);
        x.begin(0, 1, 0);
        x.fill(0, 3500, 0, 1);
        x.fill(3, 4700, 5, 5);
        due.is("copy(0, 3)", x.copy(0, 3), 3500);
        int[] told = {1, 3500, 3, 2, 428};
        for (int what = 0; what <= 4; what++) {
            due.is("copy: told(3, " + what + ")", x.told(3, what), told[what]);
        }
        for (int k = 0; k < 16; k++) {
            due.is("copy: chain(3, ..)", x.chain(3, k / 8, k % 8), x.chain(0, k / 8, k % 8));
        }
        x.fill(3, 1500, 3500, 1);
        outputIs("copy: the copy goes on", x, 3, PlainTree.output(Due.steps(5000, 0, 1), words, 16, 64, 0));
        outputIs("copy: the other stays", x, 0, PlainTree.output(Due.steps(3500, 0, 1), words, 16, 64, 0));
        x.begin(0, 0, 0);
        outputIs("copy: the other anew", x, 3, PlainTree.output(Due.steps(5000, 0, 1), words, 16, 64, 0));
        due.is("copy(3, 3)", x.copy(3, 3), 5000);
        outputIs("copy to itself", x, 3, PlainTree.output(Due.steps(5000, 0, 1), words, 16, 64, 0));
        for (int h : NO_HASHERS) {
            due.is("copy(" + h + ", 3)", x.copy(h, 3), TreeHashes.BAD);
            due.is("copy(3, " + h + ")", x.copy(3, h), TreeHashes.BAD);
        }
        due.is("copy: after BAD", x.told(3, 1), 5000);
        due.is("copy(1, 3)", x.copy(1, 3), 0);
        due.is("copy: of an empty one", x.told(3, 0), 0);
    }

    private static void promise11Told() {
        TreeHashes x = new TreeHashes();
        for (int n : new int[] {1, 63, 64, 65, 1023, 1024, 1025, 2048, 2049, 3073, 4096, 4097, 7168, 7169}) {
            x.begin(1, 0, 0);
            fillUpTo(x, 1, n);
            int closed = (n - 1) / 1024;
            due.is("told(1, 0) at " + n, x.told(1, 0), 0);
            due.is("told(1, 1) at " + n, x.told(1, 1), n);
            due.is("told(1, 2) at " + n, x.told(1, 2), closed);
            due.is("told(1, 3) at " + n, x.told(1, 3), Integer.bitCount(closed));
            due.is("told(1, 4) at " + n, x.told(1, 4), n - 1024 * closed);
        }
        for (int what : new int[] {-1, 5, 6, Integer.MIN_VALUE, Integer.MAX_VALUE}) {
            due.is("told(1, " + what + ")", x.told(1, what), TreeHashes.BAD);
        }
        for (int h : NO_HASHERS) {
            for (int what = 0; what <= 5; what++) {
                due.is("told(" + h + ", " + what + ")", x.told(h, what), TreeHashes.BAD);
            }
        }
    }

    private static void promise12Chain() {
        // 31 closed chunks are the highest stack that 40000 bytes can make.
        for (int n : new int[] {1024, 1025, 2049, 3073, 4097, 7169, 15361, 31745, 32769, 40000}) {
            TreeHashes x = new TreeHashes();
            chainsAre(x, filled(x, n));
        }
    }

    private static void promise12ChainWrong() {
        TreeHashes x = new TreeHashes();
        x.fill(0, 4000, 1, 1);
        for (int h : NO_HASHERS) {
            due.is("chain(" + h + ", 0, 0)", x.chain(h, 0, 0), TreeHashes.BAD);
            due.is("chain(" + h + ", -1, 9)", x.chain(h, -1, 9), TreeHashes.BAD);
        }
        for (int wrong : new int[] {-1, 8, Integer.MIN_VALUE, Integer.MAX_VALUE}) {
            due.is("chain(0, " + wrong + ", 0)", x.chain(0, wrong, 0), 0);
            due.is("chain(0, 0, " + wrong + ")", x.chain(0, 0, wrong), 0);
        }
        due.is("chain: another hasher", x.chain(1, 0, 0), 0);
    }

    private static void chainsAre(TreeHashes x, byte[] all) {
        int closed = (all.length - 1) / 1024;
        int first = 0;
        int i = 0;
        for (int size = 32; size >= 1; size /= 2) {
            if ((closed & size) != 0) {
                byte[] part = Arrays.copyOfRange(all, 1024 * first, 1024 * (first + size));
                int[] want = PlainTree.last(part, PlainTree.start(), 0, first, -1);
                for (int k = 0; k < 8; k++) {
                    due.is("chain(0, " + i + ", " + k + ") at " + all.length, x.chain(0, i, k), want[k]);
                }
                first += size;
                i++;
            }
        }
        due.is("chain: none more at " + all.length, x.chain(0, i, 0), 0);
        due.is("chain: so many at " + all.length, x.told(0, 3), i);
    }
}
