import java.util.Arrays;

/** Each sentence on blocks, chunks, parents and stacks that names an edge has a test of its own. */
public final class TreeEdgesTest {
    private static final Due due = new Due("TreeEdgesTest");
    private static final int MOST_CHUNKS = 40;

    public static void main(String[] args) {
        lastBlockHasWhatIsLeft();
        zerosBehindTheLastBlock();
        withoutAnyBytes();
        lastChunkHasWhatIsLeft();
        leftIsLessThanTheirNumber();
        closedWhenAByteBehindItComes();
        closedByTakeAsByFill();
        stackIsAsFewAsMayBe();
        stackOfEachMode();
        oneByteAtATime();
        due.end();
    }

    private static void fillUpTo(TreeHashes x, int n) {
        for (int had = x.told(0, 1); had < n; had += 5000) {
            x.fill(0, Math.min(5000, n - had), had, 1);
        }
    }

    private static byte[] bytes(int n) {
        return Due.steps(n, 0, 1);
    }

    private static void hashIs(String what, TreeHashes x, byte[] want) {
        x.output(0, 0, 32, 0);
        due.is(what, Due.hex(x, 0), Due.hex(PlainTree.plainHash(want)));
    }

    /** "cut into BLOCKS of 64 bytes, the last one with what is left": beside each end of a block in a chunk. */
    private static void lastBlockHasWhatIsLeft() {
        for (int blocks = 1; blocks <= 16; blocks++) {
            for (int n = 64 * blocks - 1; n <= 64 * blocks + 1; n++) {
                TreeHashes x = new TreeHashes();
                fillUpTo(x, n);
                hashIs("hash of " + n, x, bytes(n));
            }
        }
    }

    /** "0s behind it": nothing of an earlier block, nor of what was before begin(), is behind the last one. */
    private static void zerosBehindTheLastBlock() {
        for (int n : new int[] {1, 2, 3, 4, 5, 63}) {
            TreeHashes x = new TreeHashes();
            x.fill(0, 64, 255, 0);
            x.begin(0, 0, 0);
            x.fill(0, n, 0, 1);
            hashIs("hash of " + n + " behind begin()", x, bytes(n));
            x.begin(0, 0, 0);
            x.fill(0, 64, 255, 0);
            x.fill(0, n, 0, 0);
            byte[] want = new byte[64 + n];
            Arrays.fill(want, 0, 64, (byte) 255);
            hashIs("hash of 64 of 255 and " + n + " of 0", x, want);
            due.is("hashes of 0s differ by their number",
                Due.hex(PlainTree.plainHash(new byte[n])).equals(hexOfZeros(n + 1)) ? 1 : 0, 0);
        }
    }

    private static String hexOfZeros(int n) {
        TreeHashes x = new TreeHashes();
        x.fill(0, n, 0, 0);
        x.output(0, 0, 32, 0);
        return Due.hex(x, 0);
    }

    /** "without any bytes one chunk of none", "a chunk of none: one block, length 0": published values. */
    private static void withoutAnyBytes() {
        TreeHashes x = new TreeHashes();
        x.output(0, 0, 32, 0);
        due.is("hash of none", Due.hex(x, 0), "af1349b9f5f9a1a6a0404dea36dcc9499bcb25c9adc112b7cc9a93cae41f3262");
        x.root(1);
        due.is("root of an empty file", Due.hex(x, 1), Due.hex(x, 0));
        due.is("prove(0) of an empty file", x.prove(0), 0);
        due.is("prove(1) of an empty file", x.prove(1), TreeHashes.BAD);
        due.is("check(1, 0, 0)", x.check(1, 0, 0), 1);
        due.is("check(1, 0, 1)", x.check(1, 0, 1), TreeHashes.BAD);
    }

    /** "CHUNKS of 1024 bytes, the last one with what is left (1 to 1024)": 1, 1023 and 1024 of each number. */
    private static void lastChunkHasWhatIsLeft() {
        for (int chunks = 1; chunks <= MOST_CHUNKS; chunks++) {
            for (int left : new int[] {1, 2, 1023, 1024}) {
                int n = Math.min(40000, 1024 * (chunks - 1) + left);
                TreeHashes x = new TreeHashes();
                fillUpTo(x, n);
                hashIs("hash of " + n, x, bytes(n));
            }
        }
    }

    /**
     * "THE LEFT are as many of the first ones as the greatest power of two that is less than their number":
     * of a power of two the half, of one more that power; told by what a proof has beside its chunk.
     */
    private static void leftIsLessThanTheirNumber() {
        int[] firstWay = {0, 1, 2, 2, 3, 3, 3, 3, 4, 4, 4, 4, 4, 4, 4, 4, 5, 5, 5, 5};
        int[] lastWay = {0, 1, 1, 2, 1, 2, 2, 3, 1, 2, 2, 3, 2, 3, 3, 4, 1, 2, 2, 3};
        for (int chunks = 1; chunks <= 20; chunks++) {
            int length = Math.min(20000, 1024 * chunks);
            TreeHashes x = new TreeHashes();
            for (int had = 0; had < length; had += 5000) {
                x.grow(Math.min(5000, length - had), had, 1);
            }
            int own = Math.min(1024, length);
            due.is("prove(0) of " + chunks + " chunks", x.prove(0), own + 32 * firstWay[chunks - 1]);
            int last = length - 1024 * (chunks - 1);
            due.is("the last of " + chunks + " chunks", x.prove(chunks - 1), last + 32 * lastWay[chunks - 1]);
            x.root(0);
            due.is("root of " + chunks + " chunks", Due.hex(x, 0), Due.hex(PlainTree.plainHash(bytes(length))));
        }
    }

    /** "A chunk is CLOSED when a byte behind it comes": a full one is not, at the end of every chunk. */
    private static void closedWhenAByteBehindItComes() {
        TreeHashes x = new TreeHashes();
        for (int chunks = 1; chunks < MOST_CHUNKS; chunks++) {
            fillUpTo(x, 1024 * chunks);
            due.is("full: closed of " + chunks, x.told(0, 2), chunks - 1);
            due.is("full: bytes not closed of " + chunks, x.told(0, 4), 1024);
            x.fill(0, 0, 0, 0);
            due.is("full: closed by no byte", x.told(0, 2), chunks - 1);
            x.fill(0, 1, 1024 * chunks, 1);
            due.is("a byte more: closed of " + chunks, x.told(0, 2), chunks);
            due.is("a byte more: bytes not closed of " + chunks, x.told(0, 4), 1);
        }
        fillUpTo(x, 40000);
        due.is("40000: closed", x.told(0, 2), 39);
        due.is("40000: bytes not closed", x.told(0, 4), 64);
    }

    /** "A chunk is CLOSED when a byte behind it comes", and that byte may come in the midst of a take(). */
    private static void closedByTakeAsByFill() {
        for (int n : new int[] {1023, 1024, 1025}) {
            for (int more : new int[] {0, 1, 2, 200}) {
                TreeHashes x = new TreeHashes();
                fillUpTo(x, n);
                Due.put(x, 1, Due.steps(more, n, 1));
                due.is("take: " + n + " and " + more, x.take(0, 1), n + more);
                due.is("take: closed of " + (n + more), x.told(0, 2), n + more > 1024 ? 1 : 0);
                due.is("take: not closed of " + (n + more), x.told(0, 4), n + more > 1024 ? n + more - 1024 : n + more);
                hashIs("take: hash of " + (n + more), x, bytes(n + more));
            }
        }
    }

    /** "trees .. each with a power of two of chunks, as few as may be, each greater than the next": 0 .. 39. */
    private static void stackIsAsFewAsMayBe() {
        for (int closed = 0; closed < MOST_CHUNKS; closed++) {
            TreeHashes x = new TreeHashes();
            fillUpTo(x, 1024 * closed + 1);
            chainsAre(x, closed, PlainTree.start(), 0);
        }
    }

    /** The same of hashers with a key and of a context: their chains have it in them. */
    private static void stackOfEachMode() {
        byte[] key = Due.steps(32, 7, 7);
        for (int closed : new int[] {1, 2, 3, 7, 8, 31, 39}) {
            TreeHashes x = new TreeHashes();
            Due.put(x, 5, key);
            x.begin(0, 1, 5);
            fillUpTo(x, 1024 * closed + 1);
            chainsAre(x, closed, PlainTree.words(key), 16);
            x.begin(0, 2, 5);
            fillUpTo(x, 1024 * closed + 1);
            chainsAre(x, closed, PlainTree.contextKey(key), 64);
        }
    }

    private static void chainsAre(TreeHashes x, int closed, int[] key, int base) {
        byte[] all = bytes(1024 * closed + 1);
        int first = 0;
        int chains = 0;
        for (int size = 32; size >= 1; size /= 2) {
            if (closed - first >= size) {
                byte[] part = Arrays.copyOfRange(all, 1024 * first, 1024 * (first + size));
                int[] want = PlainTree.last(part, key, base, first, -1);
                for (int k = 0; k < 8; k++) {
                    String call = "chain(0, " + chains + ", " + k + ") of " + closed;
                    due.is(call, x.chain(0, chains, k), want[k]);
                }
                first += size;
                chains++;
            }
        }
        due.is("chains of " + closed, x.told(0, 3), chains);
        due.is("no chain more of " + closed, x.chain(0, chains, 0), 0);
    }

    /** "taken in bit by bit": byte by byte over an end of a block and of a chunk. */
    private static void oneByteAtATime() {
        TreeHashes x = new TreeHashes();
        for (int n = 1; n <= 200; n++) {
            due.is("fill(0, 1, ..)", x.fill(0, 1, n - 1, 1), n);
        }
        hashIs("byte by byte: 200", x, bytes(200));
        fillUpTo(x, 960);
        for (int n = 961; n <= 1100; n++) {
            due.is("fill(0, 1, ..)", x.fill(0, 1, n - 1, 1), n);
        }
        hashIs("byte by byte: 1100", x, bytes(1100));
    }
}
