import java.util.Arrays;

/** Each sentence on hashers that names an edge has a test of its own, with the sentence above it. */
public final class HasherEdgesTest {
    private static final Due due = new Due("HasherEdgesTest");
    private static final int LEAST = Integer.MIN_VALUE;
    private static final int MOST = Integer.MAX_VALUE;
    private static final int LIMIT = 40000;
    private static final long LAST_PLACE = 4611686018427387904L;

    public static void main(String[] args) {
        firstAndLastHasher();
        noSuchHasher();
        atFirstWithoutBytes();
        beginFirstAndLastMode();
        beginNoSuchMode();
        beginRegisterNotAskedFor();
        beginKeyOf32Bytes();
        beginKeyNotOf32Bytes();
        beginContextEmptyAndFull();
        beginKeepsTheKeyItHad();
        beginOfAFullHasher();
        takeEmptyAndFull();
        takeUpToTheLimit();
        takeRefused();
        takeBadBeforeRefused();
        fillFewestAndMost();
        fillTooFewAndTooMany();
        fillLowestEightBits();
        fillUpToTheLimit();
        fillRefused();
        fillBadBeforeRefused();
        outputFewestAndMost();
        outputTooFewAndTooMany();
        outputFirstAndLastPlace();
        outputPlaceBeyond();
        outputHalvesOfTheCount();
        outputTheHasherStays();
        copyEmptyAndFull();
        copyAtEveryEdge();
        copyCarriesTheLimit();
        copyToItself();
        toldFirstAndLast();
        toldNoSuch();
        chainFirstAndLastWord();
        chainNoneSuch();
        chainBadBeforeNone();
        due.end();
    }

    /** Takes in steps of 1 from 0 on, up to n bytes in all. */
    private static TreeHashes filled(int h, int n) {
        TreeHashes x = new TreeHashes();
        fillUpTo(x, h, n);
        return x;
    }

    private static void fillUpTo(TreeHashes x, int h, int n) {
        for (int had = x.told(h, 1); had < n; had += 5000) {
            x.fill(h, Math.min(5000, n - had), had, 1);
        }
    }

    private static String hash(TreeHashes x, int h) {
        x.output(h, 6, 32, 0);
        return Due.hex(x, 6);
    }

    private static String plain(byte[] bytes) {
        return Due.hex(PlainTree.plainHash(bytes));
    }

    private static String keyed(int n, byte[] key) {
        return Due.hex(PlainTree.output(Due.steps(n, 0, 1), PlainTree.words(key), 16, 32, 0));
    }

    private static String ofContext(int n, byte[] context) {
        return Due.hex(PlainTree.output(Due.steps(n, 0, 1), PlainTree.contextKey(context), 64, 32, 0));
    }

    /** "HASHERS 0 .. 3": the first and the last one, in every call that names a hasher. */
    private static void firstAndLastHasher() {
        for (int h : new int[] {0, 3}) {
            TreeHashes x = new TreeHashes();
            x.add(0, 2, 0x0100);
            due.is("begin(" + h + ", 0, 0)", x.begin(h, 0, 0), 0);
            due.is("take(" + h + ", 0)", x.take(h, 0), 2);
            due.is("fill(" + h + ", 1098, 2, 1)", x.fill(h, 1098, 2, 1), 1100);
            due.is("told(" + h + ", 1)", x.told(h, 1), 1100);
            due.is("chain(" + h + ", 0, 0)", x.chain(h, 0, 0),
                PlainTree.last(Due.steps(1024, 0, 1), PlainTree.start(), 0, 0, -1)[0]);
            due.is("output of " + h, hash(x, h), plain(Due.steps(1100, 0, 1)));
            due.is("copy(" + h + ", 1)", x.copy(h, 1), 1100);
            due.is("copy(2, " + h + ")", x.copy(2, h), 0);
            due.is("the other one of the two", x.told(3 - h, 1), 0);
        }
    }

    /** "In all calls BAD: .. there is no such one": nothing has changed then. */
    private static void noSuchHasher() {
        for (int h : new int[] {-1, 4, LEAST, MOST}) {
            Seen.bad(due, "begin(" + h + ", 0, 0)", x -> x.begin(h, 0, 0));
            Seen.bad(due, "begin(" + h + ", 1, 0)", x -> x.begin(h, 1, 0));
            Seen.bad(due, "begin(" + h + ", 2, 0)", x -> x.begin(h, 2, 0));
            Seen.bad(due, "take(" + h + ", 0)", x -> x.take(h, 0));
            Seen.bad(due, "fill(" + h + ", 1, 0, 0)", x -> x.fill(h, 1, 0, 0));
            Seen.bad(due, "fill(" + h + ", 0, 0, 0)", x -> x.fill(h, 0, 0, 0));
            Seen.bad(due, "output(" + h + ", 0, 1, 0)", x -> x.output(h, 0, 1, 0));
            Seen.bad(due, "output(" + h + ", 0, 0, 0)", x -> x.output(h, 0, 0, 0));
            Seen.bad(due, "copy(" + h + ", 0)", x -> x.copy(h, 0));
            Seen.bad(due, "copy(0, " + h + ")", x -> x.copy(0, h));
            Seen.bad(due, "copy(" + h + ", " + h + ")", x -> x.copy(h, h));
            Seen.bad(due, "told(" + h + ", 0)", x -> x.told(h, 0));
            Seen.bad(due, "chain(" + h + ", 0, 0)", x -> x.chain(h, 0, 0));
        }
    }

    /** Promise 1: "hashers of mode 0 without bytes". */
    private static void atFirstWithoutBytes() {
        TreeHashes x = new TreeHashes();
        for (int h = 0; h < 4; h++) {
            for (int what = 0; what <= 4; what++) {
                due.is("new: told(" + h + ", " + what + ")", x.told(h, what), 0);
            }
            due.is("new: hash of " + h, hash(x, h), plain(new byte[0]));
            x.fill(h, 70, 0, 1);
            due.is("new: hash of 70 by " + h, hash(x, h), plain(Due.steps(70, 0, 1)));
        }
    }

    /** Promise 6: "in a MODE" and "MODES: 0 .. 1 .. 2": the first and the last one. */
    private static void beginFirstAndLastMode() {
        TreeHashes x = Seen.full();
        due.is("begin(0, 0, 0)", x.begin(0, 0, 0), 0);
        due.is("begin(1, 2, 0)", x.begin(1, 2, 0), 0);
        due.is("begin: mode 0", x.told(0, 0), 0);
        due.is("begin: mode 2", x.told(1, 0), 2);
        due.is("begin: hash of mode 0", hash(x, 0), plain(new byte[0]));
        due.is("begin: hash of mode 2", hash(x, 1), ofContext(0, Due.steps(32, 5, 3)));
    }

    /** "BAD: a number is not as said": a mode before the first or behind the last. */
    private static void beginNoSuchMode() {
        for (int mode : new int[] {-1, 3, 16, 32, 64, LEAST, MOST}) {
            Seen.bad(due, "begin(0, " + mode + ", 0)", x -> x.begin(0, mode, 0));
            Seen.bad(due, "begin(0, " + mode + ", 1)", x -> x.begin(0, mode, 1));
            Seen.bad(due, "begin(0, " + mode + ", 8)", x -> x.begin(0, mode, 8));
        }
    }

    /** Promise 6: "with a register (not asked for mode 0)". */
    private static void beginRegisterNotAskedFor() {
        for (int r : new int[] {-1, 8, LEAST, MOST, 0, 1, 7}) {
            TreeHashes x = Seen.full();
            due.is("begin(3, 0, " + r + ")", x.begin(3, 0, r), 0);
            due.is("begin: mode behind it", x.told(3, 0), 0);
            due.is("begin: bytes behind it", x.told(3, 1), 0);
            due.is("begin: hash behind it", hash(x, 3), plain(new byte[0]));
        }
    }

    /** "1 the key is 32 bytes", of the least bytes and of the greatest. */
    private static void beginKeyOf32Bytes() {
        byte[] zeros = new byte[32];
        byte[] ones = new byte[32];
        Arrays.fill(ones, (byte) 255);
        for (byte[] key : new byte[][] {zeros, ones, Due.steps(32, 120, 1)}) {
            TreeHashes x = new TreeHashes();
            Due.put(x, 2, key);
            due.is("begin(1, 1, 2)", x.begin(1, 1, 2), 0);
            due.is("begin: keyed, of none", hash(x, 1), keyed(0, key));
            fillUpTo(x, 1, 1025);
            due.is("begin: keyed, of 1025", hash(x, 1), keyed(1025, key));
        }
    }

    /** Promise 6: "BAD: also if it has not 32 bytes for mode 1". */
    private static void beginKeyNotOf32Bytes() {
        for (int n : new int[] {0, 1, 31, 33, 64, 200}) {
            TreeHashes x = Seen.full();
            Due.put(x, 5, new byte[n]);
            due.is("begin(0, 1, 5) of " + n, x.begin(0, 1, 5), TreeHashes.BAD);
            due.is("begin: mode behind BAD", x.told(0, 0), 1);
            due.is("begin: bytes behind BAD", x.told(0, 1), 1100);
            due.is("begin: hash behind BAD", hash(x, 0), hash(Seen.full(), 0));
            due.is("begin: the register behind BAD", x.size(5), n);
            due.is("begin(0, 2, 5) of " + n, x.begin(0, 2, 5), 0);
        }
    }

    /** "2 a CONTEXT: .. the output of the context's bytes": of none, a block, one more, a full register. */
    private static void beginContextEmptyAndFull() {
        for (int n : new int[] {0, 1, 63, 64, 65, 128, 129, 199, 200}) {
            byte[] context = Due.steps(n, 250, 1);
            TreeHashes x = new TreeHashes();
            Due.put(x, 0, context);
            due.is("begin(0, 2, 0) of " + n, x.begin(0, 2, 0), 0);
            due.is("begin: context of " + n + ", of none", hash(x, 0), ofContext(0, context));
            fillUpTo(x, 0, 1025);
            due.is("begin: context of " + n + ", of 1025", hash(x, 0), ofContext(1025, context));
        }
    }

    /** "the key is 32 bytes": it stays when the register changes behind begin(). */
    private static void beginKeepsTheKeyItHad() {
        byte[] key = Due.steps(32, 5, 3);
        TreeHashes x = new TreeHashes();
        Due.put(x, 0, key);
        x.begin(0, 1, 0);
        x.begin(1, 2, 0);
        x.output(0, 0, 32, 0);
        x.add(0, 8, -1);
        fillUpTo(x, 0, 2049);
        fillUpTo(x, 1, 2049);
        due.is("begin: keyed, the register changed", hash(x, 0), keyed(2049, key));
        due.is("begin: context, the register changed", hash(x, 1), ofContext(2049, key));
    }

    /** Promise 6: "A hasher begins anew": a full one has room again, and nothing is left in it. */
    private static void beginOfAFullHasher() {
        TreeHashes x = filled(2, LIMIT);
        due.is("begin(2, 0, 0) of a full one", x.begin(2, 0, 0), 0);
        for (int what = 0; what <= 4; what++) {
            due.is("begin: told(2, " + what + ")", x.told(2, what), 0);
        }
        for (int i = 0; i < 5; i++) {
            due.is("begin: chain(2, " + i + ", 0)", x.chain(2, i, 0), 0);
        }
        fillUpTo(x, 2, 3073);
        due.is("begin: hash of 3073", hash(x, 2), plain(Due.steps(3073, 0, 1)));
    }

    /** Promise 7: "takes in a register's bytes": of an empty and of a full one. */
    private static void takeEmptyAndFull() {
        TreeHashes x = new TreeHashes();
        Due.put(x, 1, Due.steps(200, 0, 1));
        due.is("take of none", x.take(0, 0), 0);
        due.is("take of none: hash", hash(x, 0), plain(new byte[0]));
        due.is("take of 200", x.take(0, 1), 200);
        due.is("take of none behind 200", x.take(0, 0), 200);
        due.is("take of 200: hash", hash(x, 0), plain(Due.steps(200, 0, 1)));
        due.is("take: the register stays", Due.hex(x, 1), Due.hex(Due.steps(200, 0, 1)));
    }

    /** Promise 7: "REFUSED: these would be more than 40000": just 40000 are not too many. */
    private static void takeUpToTheLimit() {
        for (int n : new int[] {1, 63, 64, 65, 200}) {
            TreeHashes x = filled(1, LIMIT - n);
            Due.put(x, 3, Due.steps(n, LIMIT - n, 1));
            due.is("take: " + (LIMIT - n) + " and " + n, x.take(1, 3), LIMIT);
            due.is("take: so many", x.told(1, 1), LIMIT);
            due.is("take: hash of 40000", hash(x, 1), plain(Due.steps(LIMIT, 0, 1)));
            due.is("take: none behind 40000", x.take(1, 0), LIMIT);
        }
    }

    /** Promise 7: "REFUSED: these would be more than 40000": by one; none of them is taken in. */
    private static void takeRefused() {
        for (int n : new int[] {1, 2, 64, 65, 199, 200}) {
            int had = LIMIT + 1 - n;
            TreeHashes x = filled(1, had);
            Due.put(x, 3, Due.steps(n, had, 1));
            due.is("take: " + had + " and " + n, x.take(1, 3), TreeHashes.REFUSED);
            due.is("take: so many behind REFUSED", x.told(1, 1), had);
            due.is("take: hash behind REFUSED", hash(x, 1), plain(Due.steps(had, 0, 1)));
            due.is("take: the register behind REFUSED", x.size(3), n);
            due.is("take: another hasher has room", x.take(2, 3), n);
        }
    }

    /** Promise 7: "BAD; REFUSED": no such register is BAD at the limit too. */
    private static void takeBadBeforeRefused() {
        TreeHashes x = filled(1, LIMIT);
        x.add(0, 1, 1);
        due.is("take(1, 0) of a full one", x.take(1, 0), TreeHashes.REFUSED);
        due.is("take(1, 8) of a full one", x.take(1, 8), TreeHashes.BAD);
        due.is("take(1, -1) of a full one", x.take(1, -1), TreeHashes.BAD);
    }

    /** Promise 8: "n (0 .. 5000) bytes": the fewest and the most. */
    private static void fillFewestAndMost() {
        TreeHashes x = new TreeHashes();
        due.is("fill(0, 0, 1, 1)", x.fill(0, 0, 1, 1), 0);
        due.is("fill of none: hash", hash(x, 0), plain(new byte[0]));
        due.is("fill(0, 1, 9, 1)", x.fill(0, 1, 9, 1), 1);
        due.is("fill of one: hash", hash(x, 0), plain(Due.steps(1, 9, 1)));
        due.is("fill(1, 5000, 0, 1)", x.fill(1, 5000, 0, 1), 5000);
        due.is("fill of 5000: hash", hash(x, 1), plain(Due.steps(5000, 0, 1)));
        due.is("fill(1, 0, 1, 1)", x.fill(1, 0, 1, 1), 5000);
        due.is("fill of none behind 5000: hash", hash(x, 1), plain(Due.steps(5000, 0, 1)));
    }

    /** Promise 8: "(0 .. 5000)", beyond either end. */
    private static void fillTooFewAndTooMany() {
        for (int n : new int[] {-1, LEAST, 5001, MOST}) {
            Seen.bad(due, "fill(0, " + n + ", 1, 1)", x -> x.fill(0, n, 1, 1));
        }
    }

    /** Promise 8: "from, from + step, .. (their lowest eight bits)": those that run over, too. */
    private static void fillLowestEightBits() {
        int[][] starts = {
            {255, 1}, {256, 1}, {0, -1}, {-128, 1}, {127, 1}, {0, 255}, {0, 256}, {0, 257}, {MOST, 1}, {LEAST, -1},
            {MOST, MOST}, {LEAST, LEAST}, {-1, LEAST}, {1, 1 << 24}, {77, 0}
        };
        for (int[] s : starts) {
            byte[] want = new byte[1030];
            for (int i = 0; i < want.length; i++) {
                want[i] = (byte) Math.floorMod(s[0] + (long) i * s[1], 256L);
            }
            TreeHashes x = new TreeHashes();
            x.fill(0, want.length, s[0], s[1]);
            due.is("fill from " + s[0] + " by " + s[1], hash(x, 0), plain(want));
        }
    }

    /** Promise 8: "as take()": just 40000 are not too many. */
    private static void fillUpToTheLimit() {
        for (int n : new int[] {1, 2, 64, 1024, 4999, 5000}) {
            TreeHashes x = filled(0, LIMIT - n);
            due.is("fill: " + (LIMIT - n) + " and " + n, x.fill(0, n, LIMIT - n, 1), LIMIT);
            due.is("fill: hash of 40000", hash(x, 0), plain(Due.steps(LIMIT, 0, 1)));
            due.is("fill: none behind 40000", x.fill(0, 0, 1, 1), LIMIT);
        }
    }

    /** Promise 8: "REFUSED": one more than 40000, with the fewest and the most at once. */
    private static void fillRefused() {
        for (int n : new int[] {1, 2, 64, 1024, 4999, 5000}) {
            int had = LIMIT + 1 - n;
            TreeHashes x = filled(0, had);
            due.is("fill: " + had + " and " + n, x.fill(0, n, 0, 1), TreeHashes.REFUSED);
            due.is("fill: so many behind REFUSED", x.told(0, 1), had);
            due.is("fill: hash behind REFUSED", hash(x, 0), plain(Due.steps(had, 0, 1)));
            due.is("fill: another hasher has room", x.fill(1, n, 0, 1), n);
        }
    }

    /** Promise 8: "BAD; REFUSED": a number that is not as said is BAD at the limit too. */
    private static void fillBadBeforeRefused() {
        TreeHashes x = filled(0, LIMIT);
        due.is("fill(0, 5000, 0, 0) of a full one", x.fill(0, 5000, 0, 0), TreeHashes.REFUSED);
        due.is("fill(0, 5001, 0, 0) of a full one", x.fill(0, 5001, 0, 0), TreeHashes.BAD);
        due.is("fill(0, -1, 0, 0) of a full one", x.fill(0, -1, 0, 0), TreeHashes.BAD);
        due.is("fill(0, most, 0, 0) of a full one", x.fill(0, MOST, 0, 0), TreeHashes.BAD);
    }

    /** Promise 9: "n (0 .. 200) bytes .. come to a register": the fewest and the most, instead of what was. */
    private static void outputFewestAndMost() {
        for (int had : new int[] {0, 7, 200}) {
            for (int n : new int[] {0, 1, 63, 64, 65, 128, 129, 199, 200}) {
                TreeHashes x = filled(0, 10);
                Due.put(x, 2, new byte[had]);
                due.is("output(0, 2, " + n + ", 0)", x.output(0, 2, n, 0), n);
                due.is("output: bytes of " + n, Due.hex(x, 2),
                    Due.hex(PlainTree.output(Due.steps(10, 0, 1), PlainTree.start(), 0, n, 0)));
            }
        }
    }

    /** Promise 9: "(0 .. 200)", beyond either end. */
    private static void outputTooFewAndTooMany() {
        for (int n : new int[] {-1, LEAST, 201, MOST}) {
            Seen.bad(due, "output(0, 0, " + n + ", 0)", x -> x.output(0, 0, n, 0));
        }
    }

    /** Promise 9: "from byte place on (0 .. 2^62)": the first and the last, and those beside them. */
    private static void outputFirstAndLastPlace() {
        long[] places = {0, 1, 63, 64, LAST_PLACE - 200, LAST_PLACE - 64, LAST_PLACE - 1, LAST_PLACE};
        for (int taken : new int[] {0, 65, 1025}) {
            for (long place : places) {
                TreeHashes x = filled(3, taken);
                due.is("output(3, 1, 200, " + place + ")", x.output(3, 1, 200, place), 200);
                due.is("output of " + taken + ": bytes from " + place + " on", Due.hex(x, 1),
                    Due.hex(PlainTree.output(Due.steps(taken, 0, 1), PlainTree.start(), 0, 200, place)));
            }
        }
        TreeHashes y = filled(3, 5);
        due.is("output of none at the last place", y.output(3, 1, 0, LAST_PLACE), 0);
    }

    /** Promise 9: "(0 .. 2^62)", beyond either end, also if no byte is asked for. */
    private static void outputPlaceBeyond() {
        for (long place : new long[] {-1, Long.MIN_VALUE, LAST_PLACE + 1, Long.MAX_VALUE}) {
            Seen.bad(due, "output(0, 0, 1, " + place + ")", x -> x.output(0, 0, 1, place));
            Seen.bad(due, "output(0, 0, 0, " + place + ")", x -> x.output(0, 0, 0, place));
        }
    }

    /** "12 and 13 the lower and upper half of the count": the lower half runs over at 2^32 * 64 bytes. */
    private static void outputHalvesOfTheCount() {
        long over = 1L << 38;
        for (long place : new long[] {over / 2 - 1, over / 2, over - 65, over - 64, over - 1, over, over + 63}) {
            TreeHashes x = filled(0, 70);
            x.output(0, 1, 130, place);
            due.is("output from " + place + " on", Due.hex(x, 1),
                Due.hex(PlainTree.output(Due.steps(70, 0, 1), PlainTree.start(), 0, 130, place)));
        }
    }

    /** Promise 9: "the hasher stays as it is": at every edge of blocks and chunks, empty and full. */
    private static void outputTheHasherStays() {
        for (int n : new int[] {0, 1, 63, 64, 65, 1023, 1024, 1025, 2048, 2049, 31745, LIMIT}) {
            TreeHashes x = filled(0, n);
            x.output(0, 1, 200, 12345);
            String once = hash(x, 0);
            due.is("output of " + n + " again", hash(x, 0), once);
            due.is("output of " + n + ": told", x.told(0, 1), n);
            int more = Math.min(100, LIMIT - n);
            x.fill(0, more, n, 1);
            due.is("output of " + n + ", then " + more + " more", hash(x, 0), plain(Due.steps(n + more, 0, 1)));
        }
    }

    /** Promise 10: "A hasher becomes as another one is": of an empty one and of a full one. */
    private static void copyEmptyAndFull() {
        TreeHashes x = filled(0, LIMIT);
        due.is("copy of a full one", x.copy(0, 3), LIMIT);
        for (int what = 0; what <= 4; what++) {
            due.is("copy: told(3, " + what + ")", x.told(3, what), x.told(0, what));
        }
        due.is("copy: hash of a full one", hash(x, 3), plain(Due.steps(LIMIT, 0, 1)));
        due.is("copy of an empty one", x.copy(1, 0), 0);
        due.is("copy: hash of an empty one", hash(x, 0), plain(new byte[0]));
        x.fill(0, 1025, 0, 1);
        due.is("copy: it goes on", hash(x, 0), plain(Due.steps(1025, 0, 1)));
        due.is("copy: the other stays empty", x.told(1, 1), 0);
    }

    /** Promise 10: "as another one is": at the edges of blocks and chunks, in each mode, over another one. */
    private static void copyAtEveryEdge() {
        byte[] key = Due.steps(32, 5, 3);
        for (int mode = 0; mode <= 2; mode++) {
            for (int n : new int[] {0, 1, 63, 64, 65, 128, 1000, 1023, 1024, 1025, 2048, 2049, 3073}) {
                TreeHashes x = new TreeHashes();
                Due.put(x, 0, key);
                x.begin(0, mode, 0);
                fillUpTo(x, 0, n);
                x.begin(2, 2 - mode, 0);
                x.fill(2, 1300, 9, 9);
                due.is("copy of " + n, x.copy(0, 2), n);
                due.is("copy: mode", x.told(2, 0), mode);
                due.is("copy: bytes not closed", x.told(2, 4), x.told(0, 4));
                x.begin(0, 0, 0);
                x.fill(0, 1300, 8, 8);
                fillUpTo(x, 2, n + 2000);
                String want = mode == 0 ? plain(Due.steps(n + 2000, 0, 1))
                    : mode == 1 ? keyed(n + 2000, key) : ofContext(n + 2000, key);
                due.is("copy of " + n + " in mode " + mode + ", then 2000 more", hash(x, 2), want);
            }
        }
    }

    /** Promise 10 and "40000 each at most": a copy has just as much room as the other had. */
    private static void copyCarriesTheLimit() {
        TreeHashes x = filled(0, LIMIT - 1);
        due.is("copy(0, 2)", x.copy(0, 2), LIMIT - 1);
        due.is("copy: two more", x.fill(2, 2, 0, 1), TreeHashes.REFUSED);
        due.is("copy: one more", x.fill(2, 1, 0, 1), LIMIT);
        due.is("copy: the other has room for one", x.fill(0, 1, 0, 1), LIMIT);
        due.is("copy: and for no more", x.fill(0, 1, 0, 1), TreeHashes.REFUSED);
    }

    /** Promise 10: both numbers may be the same. */
    private static void copyToItself() {
        for (int h : new int[] {0, 3}) {
            int had = h == 0 ? 1100 : 3100;
            Seen.stays(due, Seen::full, "copy(" + h + ", " + h + ")", x -> x.copy(h, h), had);
        }
    }

    /** Promise 11: "what = 0 .. 4": the first and the last, of a hasher that has something of each. */
    private static void toldFirstAndLast() {
        TreeHashes x = Seen.full();
        int[][] want = {{1, 1100, 1, 1, 76}, {0, 64, 0, 0, 64}, {0, 1024, 0, 0, 1024}, {2, 3100, 3, 2, 28}};
        for (int h = 0; h < 4; h++) {
            for (int what = 0; what <= 4; what++) {
                due.is("told(" + h + ", " + what + ")", x.told(h, what), want[h][what]);
            }
        }
    }

    /** Promise 11: "BAD": what is before the first or behind the last. */
    private static void toldNoSuch() {
        for (int what : new int[] {-1, 5, LEAST, MOST}) {
            Seen.bad(due, "told(0, " + what + ")", x -> x.told(0, what));
            Seen.bad(due, "told(4, " + what + ")", x -> x.told(4, what));
        }
    }

    /** Promise 12: "Word k (0 .. 7) of chain i": the first and the last word of the first and the last chain. */
    private static void chainFirstAndLastWord() {
        int closed = 31;
        TreeHashes x = filled(1, 1024 * closed + 1);
        byte[] all = Due.steps(1024 * closed + 1, 0, 1);
        int first = 0;
        for (int i = 0; i < 5; i++) {
            int chunks = 16 >> i;
            byte[] part = Arrays.copyOfRange(all, 1024 * first, 1024 * (first + chunks));
            int[] want = PlainTree.last(part, PlainTree.start(), 0, first, -1);
            due.is("chain(1, " + i + ", 0)", x.chain(1, i, 0), want[0]);
            due.is("chain(1, " + i + ", 7)", x.chain(1, i, 7), want[7]);
            first += chunks;
        }
    }

    /** Promise 12: "0: there is none such": a word or a chain before the first or behind the last. */
    private static void chainNoneSuch() {
        for (int n : new int[] {0, 1024, 1025, 3073, 31745, 32769}) {
            TreeHashes x = filled(1, n);
            int chains = x.told(1, 3);
            for (int i : new int[] {-1, chains, chains + 1, 5, 6, LEAST, MOST}) {
                if (i < 0 || i >= chains) {
                    due.is("chain(1, " + i + ", 0) at " + n, x.chain(1, i, 0), 0);
                    due.is("chain(1, " + i + ", 7) at " + n, x.chain(1, i, 7), 0);
                }
            }
            for (int k : new int[] {-1, 8, 9, LEAST, MOST}) {
                for (int i = -1; i <= chains; i++) {
                    due.is("chain(1, " + i + ", " + k + ") at " + n, x.chain(1, i, k), 0);
                }
            }
        }
    }

    /** Promise 12: "BAD: no such hasher", whatever chain and word are asked for. */
    private static void chainBadBeforeNone() {
        for (int any : new int[] {-1, 0, 8, LEAST, MOST}) {
            Seen.bad(due, "chain(-1, " + any + ", 0)", x -> x.chain(-1, any, 0));
            Seen.bad(due, "chain(4, 0, " + any + ")", x -> x.chain(4, 0, any));
            Seen.bad(due, "chain(4, " + any + ", " + any + ")", x -> x.chain(4, any, any));
        }
    }
}
