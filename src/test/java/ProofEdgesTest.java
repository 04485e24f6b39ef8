import java.util.Arrays;

/** Each sentence on proofs that names an edge has a test of its own, with the sentence above it. */
public final class ProofEdgesTest {
    private static final Due due = new Due("ProofEdgesTest");
    private static final int LEAST = Integer.MIN_VALUE;
    private static final int MOST = Integer.MAX_VALUE;
    private static final int LONGEST = 1000000;

    public static void main(String[] args) {
        atFirstNoProof();
        proveFirstAndLast();
        proveNoSuchChunk();
        proveInsteadOfWhatWas();
        proveLeavesAllElse();
        proofFirstAndLast();
        proofNone();
        forgeFirstAndLast();
        forgeNoSuchByte();
        forgeLeastAndGreatest();
        forgeAnotherOne();
        cutToNoneAndToAll();
        cutTooMany();
        cutBelowNone();
        cutLeavesNothingBehind();
        checkFirstAndLastLength();
        checkLengthBeyond();
        checkFirstAndLastChunk();
        checkNoSuchChunk();
        checkRegisterNotOf32Bytes();
        checkJustAsManyBytes();
        checkJustAsManyChains();
        checkOfNoBytes();
        checkOfEveryNumberOfChunks();
        checkOfFullChunks();
        checkOfADeepWay();
        checkLeavesAllAsItWas();
        theLastCallIsAsGood();
        due.end();
    }

    /** A file of steps of 1 from 0 on. */
    private static TreeHashes ofLength(int n) {
        TreeHashes x = new TreeHashes();
        for (int had = 0; had < n; had += 5000) {
            x.grow(Math.min(5000, n - had), had, 1);
        }
        return x;
    }

    private static TreeHashes proven(int n, int c) {
        TreeHashes x = ofLength(n);
        x.prove(c);
        return x;
    }

    private static byte[] proofOf(int n, int c) {
        return PlainModel.proofOf(Due.steps(n, 0, 1), c);
    }

    /** The proof has just these bytes: its first ones, its last ones and some between. */
    private static void proofIs(String what, TreeHashes x, byte[] want) {
        for (int i = 0; i < want.length; i++) {
            if (i < 20 || i >= want.length - 170 || i % 50 == 0) {
                due.is(what + ": byte " + i, x.proof(i), want[i] & 255);
            }
        }
        due.is(what + ": none behind it", x.proof(want.length), TreeHashes.NONE);
    }

    /** Promise 1: "no proof". */
    private static void atFirstNoProof() {
        TreeHashes x = new TreeHashes();
        for (int i : new int[] {-1, 0, 1, 1023, 1183}) {
            due.is("new: proof(" + i + ")", x.proof(i), TreeHashes.NONE);
            due.is("new: forge(" + i + ", 0)", x.forge(i, 0), TreeHashes.BAD);
        }
        due.is("new: cut(1)", x.cut(1), TreeHashes.BAD);
        due.is("new: cut(-1)", x.cut(-1), TreeHashes.BAD);
        TreeHashes y = ofLength(5000);
        due.is("a file alone makes no proof", y.proof(0), TreeHashes.NONE);
        y.root(0);
        due.is("nor does its root", y.proof(0), TreeHashes.NONE);
        due.is("nor is it checked", y.check(0, 5000, 0), 0);
    }

    /** Promise 17: "THE PROOF of a chunk of the FILE": the first and the last one, at the edges of chunks. */
    private static void proveFirstAndLast() {
        for (int n : new int[] {0, 1, 1023, 1024, 1025, 2047, 2048, 2049, 4096, 4097, 16384, 16385, 19456, 19457, 20000}) {
            for (int c : new int[] {0, PlainTree.chunks(n) - 1}) {
                byte[] want = proofOf(n, c);
                TreeHashes x = ofLength(n);
                due.is("prove(" + c + ") of " + n, x.prove(c), want.length);
                proofIs("prove(" + c + ") of " + n, x, want);
            }
        }
    }

    /** Promise 17: "BAD: it has no such chunk": below 0, behind the last one; the proof stays. */
    private static void proveNoSuchChunk() {
        for (int n : new int[] {0, 1, 1023, 1024, 1025, 2048, 2049, 19456, 19457, 20000}) {
            int chunks = PlainTree.chunks(n);
            byte[] want = proofOf(n, chunks - 1);
            for (int c : new int[] {-1, chunks, chunks + 1, LEAST, MOST}) {
                TreeHashes x = proven(n, chunks - 1);
                due.is("prove(" + c + ") of " + n, x.prove(c), TreeHashes.BAD);
                proofIs("prove(" + c + ") of " + n + ": the one before", x, want);
            }
        }
        for (int c : new int[] {-1, 3, 1 << 21, 1 << 22, LEAST, MOST}) {
            Seen.bad(due, "prove(" + c + ")", x -> x.prove(c));
        }
    }

    /** Promise 17: "instead of what was": a short one behind the longest, one forged, one cut. */
    private static void proveInsteadOfWhatWas() {
        TreeHashes x = proven(20000, 0);
        due.is("prove(19) behind prove(0)", x.prove(19), 544 + 3 * 32);
        proofIs("prove(19) behind prove(0)", x, proofOf(20000, 19));
        x.forge(0, 255);
        x.cut(5);
        due.is("prove(19) behind forge() and cut()", x.prove(19), 544 + 3 * 32);
        due.is("prove: nothing forged", x.proof(0), (19 * 1024) & 255);
        due.is("prove: nothing cut", x.proof(639), proofOf(20000, 19)[639] & 255);
        x.shorten(0);
        due.is("prove(0) of an empty file", x.prove(0), 0);
        due.is("prove: no byte of before", x.proof(0), TreeHashes.NONE);
    }

    /** Promise 17: only the proof is another one then. */
    private static void proveLeavesAllElse() {
        Seen.stays(due, Seen::full, "prove(0), then prove(2)", x -> {
            x.prove(0);
            return x.prove(2);
        }, 52 + 32);
    }

    /** Promise 18: "Byte i of the proof": the first and the last one, of the least and the longest proof. */
    private static void proofFirstAndLast() {
        int[][] ofChunks = {{1, 0}, {2, 0}, {1024, 0}, {1025, 1}, {20000, 0}, {20000, 19}};
        for (int[] f : ofChunks) {
            byte[] want = proofOf(f[0], f[1]);
            int last = want.length - 1;
            TreeHashes x = proven(f[0], f[1]);
            due.is("proof(0) of " + f[0], x.proof(0), want[0] & 255);
            due.is("proof(" + last + ") of " + f[0], x.proof(last), want[last] & 255);
        }
    }

    /** Promise 18: "NONE: there is none": before the first, behind the last, of no bytes. */
    private static void proofNone() {
        int[][] ofChunks = {{0, 0}, {1, 0}, {1024, 0}, {1025, 1}, {20000, 0}};
        for (int[] f : ofChunks) {
            int size = proofOf(f[0], f[1]).length;
            TreeHashes x = proven(f[0], f[1]);
            for (int i : new int[] {-1, size, size + 1, 1184, 1185, LEAST, MOST}) {
                due.is("proof(" + i + ") of " + f[0], x.proof(i), TreeHashes.NONE);
            }
        }
    }

    /** Promise 19: "Byte i of the proof becomes itself ^ x": the first and the last one, and no other. */
    private static void forgeFirstAndLast() {
        int[][] ofChunks = {{1, 0}, {1024, 0}, {1025, 1}, {20000, 0}};
        for (int[] f : ofChunks) {
            byte[] want = proofOf(f[0], f[1]);
            int last = want.length - 1;
            TreeHashes x = proven(f[0], f[1]);
            want[0] ^= 64;
            due.is("forge(0, 64) of " + f[0], x.forge(0, 64), want[0] & 255);
            want[last] ^= (byte) 129;
            due.is("forge(" + last + ", 129) of " + f[0], x.forge(last, 129), want[last] & 255);
            proofIs("forge: of " + f[0], x, want);
        }
    }

    /** Promise 19: "BAD: there is none": before the first, behind the last, of no bytes. */
    private static void forgeNoSuchByte() {
        int[][] ofChunks = {{0, 0}, {1, 0}, {1025, 1}, {20000, 0}};
        for (int[] f : ofChunks) {
            byte[] want = proofOf(f[0], f[1]);
            TreeHashes x = proven(f[0], f[1]);
            for (int i : new int[] {-1, want.length, want.length + 1, 1184, LEAST, MOST}) {
                due.is("forge(" + i + ", 1) of " + f[0], x.forge(i, 1), TreeHashes.BAD);
                due.is("forge(" + i + ", 0) of " + f[0], x.forge(i, 0), TreeHashes.BAD);
            }
            proofIs("forge: none such of " + f[0], x, want);
        }
    }

    /** Promise 19: "x (0 .. 255): what it is then": the least and the greatest of both. */
    private static void forgeLeastAndGreatest() {
        TreeHashes x = proven(256, 0);
        int[][] calls = {{0, 0, 0}, {0, 255, 255}, {0, 255, 0}, {255, 0, 255}, {255, 255, 0}, {127, 128, 255}};
        for (int[] c : calls) {
            due.is("forge(" + c[0] + ", " + c[1] + ")", x.forge(c[0], c[1]), c[2]);
            due.is("forge(" + c[0] + ", " + c[1] + "): byte", x.proof(c[0]), c[2]);
        }
        due.is("forge: the file stays", x.spoil(255, 0), 255);
    }

    /** Promise 19: "BAD: .. x is another one", beyond either end. */
    private static void forgeAnotherOne() {
        for (int wrong : new int[] {-1, 256, LEAST, MOST}) {
            Seen.bad(due, "forge(0, " + wrong + ")", x -> x.forge(0, wrong));
            Seen.bad(due, "forge(83, " + wrong + ")", x -> x.forge(83, wrong));
            Seen.bad(due, "forge(84, " + wrong + ")", x -> x.forge(84, wrong));
        }
    }

    /** Promise 20: "its first n bytes alone: how many went": all of them, all but one, one, none. */
    private static void cutToNoneAndToAll() {
        int[][] ofChunks = {{0, 0}, {1, 0}, {1025, 1}, {20000, 0}};
        for (int[] f : ofChunks) {
            byte[] all = proofOf(f[0], f[1]);
            for (int kept : new int[] {0, 1, all.length - 1, all.length}) {
                if (kept >= 0 && kept <= all.length) {
                    TreeHashes x = proven(f[0], f[1]);
                    due.is("cut(" + kept + ") of " + all.length, x.cut(kept), all.length - kept);
                    proofIs("cut(" + kept + ") of " + all.length, x, Arrays.copyOf(all, kept));
                }
            }
        }
    }

    /** Promise 20: "BAD: it has not so many". */
    private static void cutTooMany() {
        int[][] ofChunks = {{0, 0}, {1, 0}, {1025, 1}, {20000, 0}};
        for (int[] f : ofChunks) {
            byte[] all = proofOf(f[0], f[1]);
            TreeHashes x = proven(f[0], f[1]);
            for (int kept : new int[] {all.length + 1, 1185, MOST}) {
                due.is("cut(" + kept + ") of " + all.length, x.cut(kept), TreeHashes.BAD);
            }
            proofIs("cut: too many of " + all.length, x, all);
        }
    }

    /** Promise 20: "BAD: .. n is below 0". */
    private static void cutBelowNone() {
        for (int kept : new int[] {-1, -2, LEAST}) {
            Seen.bad(due, "cut(" + kept + ")", x -> x.cut(kept));
            due.is("cut(" + kept + ") of none", proven(0, 0).cut(kept), TreeHashes.BAD);
        }
    }

    /** Promise 20: what is cut is gone for proof(), forge() and a greater cut(). */
    private static void cutLeavesNothingBehind() {
        TreeHashes x = proven(1500, 1);
        x.cut(100);
        due.is("cut: proof(99)", x.proof(99), (1024 + 99) & 255);
        due.is("cut: proof(100)", x.proof(100), TreeHashes.NONE);
        due.is("cut: forge(100, 1)", x.forge(100, 1), TreeHashes.BAD);
        due.is("cut: cut(101)", x.cut(101), TreeHashes.BAD);
        due.is("cut: cut(100)", x.cut(100), 0);
    }

    /** Promise 21: "a length (0 .. 1000000)": the least and the greatest are asked for, and answer. */
    private static void checkFirstAndLastLength() {
        TreeHashes x = proven(0, 0);
        x.root(0);
        due.is("check(0, 0, 0)", x.check(0, 0, 0), 1);
        due.is("check(0, 1, 0)", x.check(0, 1, 0), 0);
        due.is("check(0, 1000000, 0)", x.check(0, LONGEST, 0), 0);
        due.is("check(0, 1000000, 976)", x.check(0, LONGEST, 976), 0);
        due.is("check(0, 999999, 976)", x.check(0, LONGEST - 1, 976), 0);
        crafted(LONGEST, 976);
        crafted(LONGEST - 1, 976);
    }

    /** Promise 21: "(0 .. 1000000)", beyond either end. */
    private static void checkLengthBeyond() {
        for (int length : new int[] {-1, -1023, -1024, -1025, LEAST, LONGEST + 1, LONGEST + 448, MOST}) {
            for (int c : new int[] {-1, 0, 976, 977}) {
                Seen.bad(due, "check(0, " + length + ", " + c + ")", x -> x.check(0, length, c));
            }
        }
    }

    /** "a chunk number that such a file has": the first and the last one, at the edges of chunks. */
    private static void checkFirstAndLastChunk() {
        for (int n : new int[] {0, 1, 1023, 1024, 1025, 2047, 2048, 2049, 4096, 4097, 16384, 16385, 19456, 19457, 20000}) {
            int last = PlainTree.chunks(n) - 1;
            TreeHashes x = ofLength(n);
            x.root(0);
            x.prove(0);
            due.is("check(0, " + n + ", 0)", x.check(0, n, 0), 1);
            x.prove(last);
            due.is("check(0, " + n + ", " + last + ")", x.check(0, n, last), 1);
        }
    }

    /** Promise 21: "BAD: also if a file of that length has no such chunk": below 0, behind the last one. */
    private static void checkNoSuchChunk() {
        int[] lengths = {0, 1, 1023, 1024, 1025, 2048, 2049, 20000, 524288, 524289, 999424, 999425, LONGEST};
        TreeHashes x = proven(20000, 19);
        x.root(0);
        for (int length : lengths) {
            int chunks = PlainTree.chunks(length);
            for (int c : new int[] {-1, chunks, chunks + 1, LEAST, MOST}) {
                due.is("check(0, " + length + ", " + c + ")", x.check(0, length, c), TreeHashes.BAD);
            }
            int due19 = length == 20000 ? 1 : 0;
            due.is("check: the last one of " + length, x.check(0, length, chunks - 1), due19);
        }
    }

    /** Promise 21: "BAD: .. or the register has not 32 bytes": also of a root with one byte less or more. */
    private static void checkRegisterNotOf32Bytes() {
        TreeHashes x = proven(100, 0);
        x.root(0);
        byte[] root = PlainTree.plainHash(Due.steps(100, 0, 1));
        for (int n : new int[] {0, 1, 31, 33, 64, 200}) {
            Due.put(x, 1, Arrays.copyOf(root, n));
            due.is("check of a register of " + n, x.check(1, 100, 0), TreeHashes.BAD);
            due.is("check of a register of " + n + ", another length", x.check(1, 101, 0), TreeHashes.BAD);
        }
        Due.put(x, 1, root);
        due.is("check of a register of 32", x.check(1, 100, 0), 1);
    }

    /** "CHECKED .. if it has just as many bytes": one more or one less is not, whatever the root is. */
    private static void checkJustAsManyBytes() {
        for (int n : new int[] {1, 2, 64, 65, 1023, 1024}) {
            TreeHashes x = proven(n, 0);
            Due.put(x, 0, PlainTree.plainHash(Due.steps(n - 1, 0, 1)));
            due.is("check: one more than " + (n - 1), x.check(0, n - 1, 0), 0);
            due.is("check: as many as " + (n - 1), x.cut(n - 1) + x.check(0, n - 1, 0), 2);
            for (int behind : new int[] {0, 255}) {
                byte[] longer = Due.steps(n, 0, 1);
                longer[n - 1] = (byte) behind;
                Due.put(x, 0, PlainTree.plainHash(longer));
                due.is("check: one less than " + n + ", " + behind + " behind", x.check(0, n, 0), 0);
            }
        }
    }

    /** The same with chains behind the chunk: one byte less, and a chain less or more. */
    private static void checkJustAsManyChains() {
        int length = 3 * 1024 + 500;
        byte[] all = proofOf(length, 3);
        TreeHashes x = proven(length, 3);
        int last = all.length - 1;
        x.forge(last, all[last] & 255);
        all[last] = 0;
        Due.put(x, 0, PlainModel.rootOf(all, length, 3));
        due.is("check: with all chains", x.check(0, length, 3), 1);
        x.cut(last);
        due.is("check: with a byte less, that was 0", x.check(0, length, 3), 0);

        TreeHashes y = proven(length, 3);
        byte[] shorter = Arrays.copyOf(all, 500 + 32);
        Due.put(y, 0, PlainModel.rootOf(shorter, 2 * 1024 + 500, 2));
        due.is("check: with a chain more", y.check(0, 2 * 1024 + 500, 2), 0);
        y.cut(500 + 33);
        due.is("check: with a byte more", y.check(0, 2 * 1024 + 500, 2), 0);
        y.cut(500 + 32);
        due.is("check: with just its chain", y.check(0, 2 * 1024 + 500, 2), 1);
    }

    /** A proof of no bytes is as long as that of an empty file, and of no other. */
    private static void checkOfNoBytes() {
        TreeHashes x = proven(2000, 1);
        x.cut(0);
        Due.put(x, 0, PlainTree.plainHash(new byte[0]));
        due.is("check of none, length 0", x.check(0, 0, 0), 1);
        due.is("check of none, length 1", x.check(0, 1, 0), 0);
        due.is("check of none, length 2000", x.check(0, 2000, 1), 0);
        x.root(0);
        due.is("check of none, the root of 2000", x.check(0, 0, 0), 0);
    }

    /** Each number of chunks that a file may have: the last one has one byte, so that its way fits a proof. */
    private static void checkOfEveryNumberOfChunks() {
        for (int chunks = 1; chunks <= 977; chunks++) {
            crafted(1024 * (chunks - 1) + 1, chunks - 1);
        }
    }

    /** Last chunks of 1024 bytes, and the ones before, as far as their ways fit the longest proof. */
    private static void checkOfFullChunks() {
        for (int chunks : new int[] {1, 2, 3, 4, 5, 16, 17, 31, 32, 33, 34, 257, 512 + 1, 512 + 2, 512 + 17, 976}) {
            for (int c = chunks - 1; c >= 0 && c >= chunks - 3; c--) {
                if (PlainModel.proofSize(1024 * chunks, c) <= 1184) {
                    crafted(1024 * chunks, c);
                }
            }
        }
    }

    /** The deepest ways of all, down ten parents, have more bytes than a proof can have: 0, not BAD. */
    private static void checkOfADeepWay() {
        for (int c : new int[] {0, 1, 255, 511}) {
            TreeHashes x = proven(20000, 0);
            x.root(0);
            due.is("check(0, 1000000, " + c + ")", x.check(0, LONGEST, c), 0);
        }
        crafted(511 * 1024 + 896, 511);
        crafted(767 * 1024 + 896, 767);
    }

    /** Makes a proof of the size that is due of other bytes, and the root that comes of it. */
    private static void crafted(int length, int c) {
        byte[] longest = proofOf(20000, 4);
        int size = PlainModel.proofSize(length, c);
        TreeHashes x = proven(20000, 4);
        String call = "check(0, " + length + ", " + c + ")";
        x.cut(size);
        byte[] root = PlainModel.rootOf(Arrays.copyOf(longest, size), length, c);
        Due.put(x, 0, root);
        due.is(call, x.check(0, length, c), 1);
        x.forge(size - 1, 128);
        due.is(call + ": the last byte forged", x.check(0, length, c), 0);
        x.forge(size - 1, 128);
        due.is(call + ": as it was", x.check(0, length, c), 1);
        for (int i : new int[] {0, 31}) {
            byte[] other = root.clone();
            other[i] ^= 1;
            Due.put(x, 1, other);
            due.is(call + ": byte " + i + " of the root another", x.check(1, length, c), 0);
        }
        x.cut(size - 1);
        due.is(call + ": a byte less", x.check(0, length, c), 0);
    }

    /** Promise 21: "Whether the proof is CHECKED": asking changes nothing, whatever the answer is. */
    private static void checkLeavesAllAsItWas() {
        Seen.stays(due, Seen::full, "check(0, 2100, 2)", x -> x.check(0, 2100, 2), 0);
        Seen.stays(due, Seen::full, "check(0, 2100, 0)", x -> x.check(0, 2100, 0), 0);
        Seen.stays(due, Seen::full, "root(6), check(6, 2100, 2), clear(6)", x -> {
            x.root(6);
            int checked = x.check(6, 2100, 2);
            x.clear(6);
            return checked;
        }, 1);
    }

    /** "An object is used for at most 512 calls": the 512th answers as the first, behind the dearest ones. */
    private static void theLastCallIsAsGood() {
        TreeHashes x = ofLength(20000);
        x.root(0);
        for (int call = 6; call <= 511; call++) {
            int c = call / 2 % 20;
            if (call % 2 == 0) {
                due.is("call " + call, x.prove(c), PlainModel.proofSize(20000, c));
            } else {
                due.is("call " + call, x.check(0, 20000, c), 1);
            }
        }
        due.is("call 512", x.prove(19), 640);
    }
}
