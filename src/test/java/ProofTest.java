import java.util.Arrays;

/** Promises 17 to 21: proofs. */
public final class ProofTest {
    private static final Due due = new Due("ProofTest");

    public static void main(String[] args) {
        promise17ProveEachChunk();
        promise17ProveInsteadOfWhatWas();
        promise17ProveWrong();
        promise18Proof();
        promise19Forge();
        promise20Cut();
        promise21CheckEachChunk();
        promise21CheckOfOtherLengths();
        promise21CheckFindsEveryForgery();
        promise21CheckFindsEveryOtherRoot();
        promise21CheckOfALongFile();
        promise21CheckWithoutAProof();
        promise21CheckWrong();
        due.end();
    }

    private static TreeHashes ofFile(byte[] file) {
        TreeHashes x = new TreeHashes();
        for (int had = 0; had < file.length; had += 5000) {
            x.grow(Math.min(5000, file.length - had), had * 7, 7);
        }
        return x;
    }

    /** Bytes of the proof from one on, up to another one or the proof's end. */
    private static String part(TreeHashes x, int from, int to) {
        byte[] bytes = new byte[to - from];
        int n = 0;
        while (n < bytes.length && x.proof(from + n) != TreeHashes.NONE) {
            bytes[n] = (byte) x.proof(from + n);
            n++;
        }
        return Due.hex(Arrays.copyOf(bytes, n));
    }

    private static String part(byte[] proof, int from, int to) {
        return Due.hex(Arrays.copyOfRange(proof, from, Math.max(from, Math.min(to, proof.length))));
    }

    private static void promise17ProveEachChunk() {
        for (int n : new int[] {0, 1, 1024, 1025, 2048, 2049, 3073, 5000, 7000, 16384, 16385, 20000}) {
            byte[] file = Due.steps(n, 0, 7);
            for (int c = 0; c < PlainTree.chunks(n); c++) {
                byte[] want = PlainModel.proofOf(file, c);
                for (int from = 0; from <= want.length; from += 200) {
                    TreeHashes x = ofFile(file);
                    due.is("prove(" + c + ") of " + n, x.prove(c), want.length);
                    String bytes = "prove(" + c + ") of " + n + ": bytes from " + from + " on";
                    due.is(bytes, part(x, from, from + 200), part(want, from, from + 200));
                }
            }
            TreeHashes x = ofFile(file);
            due.is("prove: none such of " + n, x.prove(PlainTree.chunks(n)), TreeHashes.BAD);
            due.is("prove: the file of " + n + " stays", x.root(0), n);
            due.is("prove: the root of " + n, Due.hex(x, 0), Due.hex(PlainTree.plainHash(file)));
        }
    }

    private static void promise17ProveInsteadOfWhatWas() {
        byte[] file = Due.steps(2500, 0, 7);
        TreeHashes x = ofFile(file);
        x.prove(0);
        due.is("prove(2) behind prove(0)", x.prove(2), 452 + 32);
        byte[] want = PlainModel.proofOf(file, 2);
        due.is("prove: instead", part(x, 0, 10), part(want, 0, 10));
        due.is("prove: instead, its end", part(x, 440, 600), part(want, 440, 600));
        x.spoil(2100, 3);
        x.shorten(2200);
        x.grow(50, 1, 1);
        due.is("proof: the file changed behind it", part(x, 40, 60), part(want, 40, 60));
        due.is("proof: the file changed, its end", part(x, 440, 600), part(want, 440, 600));
        x.shorten(0);
        due.is("prove(0) of none", x.prove(0), 0);
        due.is("prove(0) of none: byte 0", x.proof(0), TreeHashes.NONE);
    }

    private static void promise17ProveWrong() {
        byte[] file = Due.steps(2500, 0, 7);
        TreeHashes x = ofFile(file);
        x.prove(1);
        for (int c : new int[] {-1, 3, 20, Integer.MIN_VALUE, Integer.MAX_VALUE}) {
            due.is("prove(" + c + ")", x.prove(c), TreeHashes.BAD);
        }
        byte[] want = PlainModel.proofOf(file, 1);
        due.is("prove: after BAD", part(x, 0, 50), part(want, 0, 50));
        due.is("prove: after BAD, its end", part(x, 1020, 1184), part(want, 1020, 1184));
        TreeHashes y = new TreeHashes();
        due.is("prove(1) of none", y.prove(1), TreeHashes.BAD);
        due.is("prove(-1) of none", y.prove(-1), TreeHashes.BAD);
    }

    private static void promise18Proof() {
        TreeHashes x = ofFile(Due.steps(300, 0, 7));
        x.prove(0);
        for (int i = 0; i < 300; i++) {
            due.is("proof(" + i + ")", x.proof(i), (i * 7) & 255);
        }
        for (int i : new int[] {-1, 300, 1184, 2000, Integer.MIN_VALUE, Integer.MAX_VALUE}) {
            due.is("proof(" + i + ")", x.proof(i), TreeHashes.NONE);
        }
    }

    private static void promise19Forge() {
        TreeHashes x = ofFile(Due.steps(100, 0, 7));
        x.root(0);
        x.prove(0);
        due.is("forge(0, 255)", x.forge(0, 255), 255);
        due.is("forge(0, 255): byte", x.proof(0), 255);
        due.is("forge(0, 15)", x.forge(0, 15), 240);
        due.is("forge(99, 0)", x.forge(99, 0), (99 * 7) & 255);
        due.is("forge: others stay", x.proof(1), 7);
        for (int i : new int[] {-1, 100, 1183, 1184, Integer.MIN_VALUE, Integer.MAX_VALUE}) {
            due.is("forge(" + i + ", 1)", x.forge(i, 1), TreeHashes.BAD);
        }
        for (int wrong : new int[] {-1, 256, Integer.MIN_VALUE, Integer.MAX_VALUE}) {
            due.is("forge(0, " + wrong + ")", x.forge(0, wrong), TreeHashes.BAD);
        }
        due.is("forge: after BAD", x.proof(0), 240);
        x.root(1);
        due.is("forge: the file stays", Due.hex(x, 1), Due.hex(x, 0));
    }

    private static void promise20Cut() {
        TreeHashes x = ofFile(Due.steps(1500, 0, 7));
        x.prove(0);
        due.is("cut(1057)", x.cut(1057), TreeHashes.BAD);
        due.is("cut(-1)", x.cut(-1), TreeHashes.BAD);
        due.is("cut(least)", x.cut(Integer.MIN_VALUE), TreeHashes.BAD);
        due.is("cut(most)", x.cut(Integer.MAX_VALUE), TreeHashes.BAD);
        due.is("cut(1056)", x.cut(1056), 0);
        due.is("cut(1000)", x.cut(1000), 56);
        due.is("cut: the last byte", x.proof(999), (999 * 7) & 255);
        due.is("cut: none behind", x.proof(1000), TreeHashes.NONE);
        due.is("cut: none to forge behind", x.forge(1000, 1), TreeHashes.BAD);
        due.is("cut(1001)", x.cut(1001), TreeHashes.BAD);
        due.is("cut(0)", x.cut(0), 1000);
        due.is("cut(0) again", x.cut(0), 0);
        due.is("cut: the file stays", x.root(0), 1500);
        due.is("cut: a new proof", x.prove(0), 1056);
    }

    private static void promise21CheckEachChunk() {
        for (int n : new int[] {0, 1, 1024, 1025, 2048, 3073, 5000, 7000, 16385, 20000}) {
            TreeHashes x = ofFile(Due.steps(n, 0, 7));
            x.root(0);
            Due.put(x, 1, Due.steps(32, 0, 1));
            int chunks = PlainTree.chunks(n);
            for (int c = 0; c < chunks; c++) {
                x.prove(c);
                for (int other = 0; other < chunks; other++) {
                    String call = "check(0, " + n + ", " + other + ") of chunk " + c;
                    due.is(call, x.check(0, n, other), other == c ? 1 : 0);
                }
                due.is("check of other bytes", x.check(1, n, c), 0);
            }
            due.is("check: none such of " + n, x.check(0, n, chunks), TreeHashes.BAD);
        }
    }

    private static void promise21CheckOfOtherLengths() {
        TreeHashes x = ofFile(Due.steps(5000, 0, 7));
        x.root(0);
        x.prove(1);
        // Chunk 1 has the same way down in every file of five to eight chunks, so all these check.
        due.is("check of 4097", x.check(0, 4097, 1), 1);
        due.is("check of 8192", x.check(0, 8192, 1), 1);
        due.is("check of 4096", x.check(0, 4096, 1), 0);
        due.is("check of 8193", x.check(0, 8193, 1), 0);
        x.prove(4);
        due.is("check of the last one", x.check(0, 5000, 4), 1);
        due.is("check of the last one, 4999", x.check(0, 4999, 4), 0);
        due.is("check of the last one, 5001", x.check(0, 5001, 4), 0);
        x.cut(904 + 31);
        due.is("check of a proof cut", x.check(0, 5000, 4), 0);
        due.is("check of a proof cut, 4999", x.check(0, 4999, 4), 0);
    }

    private static void promise21CheckFindsEveryForgery() {
        TreeHashes x = ofFile(Due.steps(2100, 0, 7));
        x.root(0);
        int size = x.prove(2);
        for (int i = 0; i < size; i++) {
            x.forge(i, 1 << (i % 8));
            due.is("check: byte " + i + " forged", x.check(0, 2100, 2), 0);
            x.forge(i, 1 << (i % 8));
        }
        due.is("check: all as it was", x.check(0, 2100, 2), 1);
    }

    private static void promise21CheckFindsEveryOtherRoot() {
        TreeHashes x = ofFile(Due.steps(2100, 0, 7));
        x.prove(2);
        for (int i = 0; i < 32; i++) {
            byte[] root = PlainTree.plainHash(Due.steps(2100, 0, 7));
            root[i] ^= (byte) (1 << (i % 8));
            Due.put(x, 1, root);
            due.is("check: byte " + i + " of the root is another", x.check(1, 2100, 2), 0);
        }
    }

    /** A proof cut to the size of one of a far longer file is no mere matter of its size. */
    private static void promise21CheckOfALongFile() {
        int length = 1000000;
        int size = 576 + 5 * 32;
        byte[] file = Due.steps(20000, 0, 7);
        TreeHashes x = ofFile(file);
        x.prove(3);
        x.cut(size);
        byte[] proof = Arrays.copyOf(PlainModel.proofOf(file, 3), size);
        Due.put(x, 2, PlainModel.rootOf(proof, length, 976));
        due.is("check(2, 1000000, 976)", x.check(2, length, 976), 1);
        due.is("check(2, 1000000, 975)", x.check(2, length, 975), 0);
        x.forge(735, 1);
        due.is("check: forged", x.check(2, length, 976), 0);
        due.is("check(2, 1000000, 0)", x.check(2, length, 0), 0);
        due.is("check(2, 1000000, 977)", x.check(2, length, 977), TreeHashes.BAD);
    }

    /** The document tells no answer of its own for no proof: it has no bytes, as that of an empty file. */
    private static void promise21CheckWithoutAProof() {
        TreeHashes x = new TreeHashes();
        x.root(0);
        due.is("check without a proof, of none", x.check(0, 0, 0), 1);
        due.is("check without a proof, of one", x.check(0, 1, 0), 0);
    }

    private static void promise21CheckWrong() {
        TreeHashes x = ofFile(Due.steps(1025, 0, 7));
        x.root(0);
        x.prove(0);
        for (int r : new int[] {-1, 8, Integer.MIN_VALUE, Integer.MAX_VALUE}) {
            due.is("check(" + r + ", 1025, 0)", x.check(r, 1025, 0), TreeHashes.BAD);
        }
        for (int length : new int[] {-1, -1024, 1000001, Integer.MIN_VALUE, Integer.MAX_VALUE}) {
            due.is("check(0, " + length + ", 0)", x.check(0, length, 0), TreeHashes.BAD);
        }
        for (int c : new int[] {-1, 2, Integer.MIN_VALUE, Integer.MAX_VALUE}) {
            due.is("check(0, 1025, " + c + ")", x.check(0, 1025, c), TreeHashes.BAD);
        }
        due.is("check(0, 0, 1)", x.check(0, 0, 1), TreeHashes.BAD);
        due.is("check(0, 1024, 1)", x.check(0, 1024, 1), TreeHashes.BAD);
        for (int n : new int[] {0, 31, 33, 200}) {
            Due.put(x, 1, new byte[n]);
            due.is("check of a register of " + n, x.check(1, 1025, 0), TreeHashes.BAD);
        }
        due.is("check: the register stays", x.size(0), 32);
        due.is("check: all is as it was", x.check(0, 1025, 0), 1);
    }
}
