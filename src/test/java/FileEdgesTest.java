import java.util.Arrays;

/** Each sentence on the file that names an edge has a test of its own, with the sentence above it. */
public final class FileEdgesTest {
    private static final Due due = new Due("FileEdgesTest");
    private static final int LEAST = Integer.MIN_VALUE;
    private static final int MOST = Integer.MAX_VALUE;
    private static final int LIMIT = 20000;

    public static void main(String[] args) {
        atFirstEmpty();
        growFewestAndMost();
        growTooFewAndTooMany();
        growRunsOver();
        growUpToTheLimit();
        growRefused();
        growBadBeforeRefused();
        spoilFirstAndLast();
        spoilNoSuchByte();
        spoilLeastAndGreatest();
        spoilAnotherOne();
        spoilOfAShortenedFile();
        shortenToNoneAndToAll();
        shortenTooMany();
        shortenBelowNone();
        shortenMakesRoom();
        rootEmptyAndFull();
        rootInsteadOfWhatWas();
        rootLeavesAllElse();
        due.end();
    }

    /** A file of steps of 1 from 0 on. */
    private static TreeHashes ofLength(int n) {
        TreeHashes x = new TreeHashes();
        for (int had = 0; had < n; had += 5000) {
            x.grow(Math.min(5000, n - had), had, 1);
        }
        return x;
    }

    private static void fileIs(String what, TreeHashes x, byte[] want) {
        due.is(what + ": so long", x.root(6), want.length);
        due.is(what + ": its root", Due.hex(x, 6), Due.hex(PlainTree.plainHash(want)));
    }

    private static void fileIs(String what, TreeHashes x, int length) {
        fileIs(what, x, Due.steps(length, 0, 1));
    }

    /** Promise 1: "an empty file". */
    private static void atFirstEmpty() {
        TreeHashes x = new TreeHashes();
        due.is("new: spoil(0, 1)", x.spoil(0, 1), TreeHashes.BAD);
        due.is("new: shorten(1)", x.shorten(1), TreeHashes.BAD);
        due.is("new: shorten(0)", x.shorten(0), 0);
        fileIs("new", x, 0);
    }

    /** Promise 13: "n (1 .. 5000) bytes": the fewest and the most. */
    private static void growFewestAndMost() {
        TreeHashes x = new TreeHashes();
        due.is("grow(1, 0, 9)", x.grow(1, 0, 9), 1);
        fileIs("grow of one", x, 1);
        due.is("grow(5000, 1, 1)", x.grow(5000, 1, 1), 5001);
        fileIs("grow of 5000", x, 5001);
        due.is("grow(1, 5001, 9)", x.grow(1, 5001, 9), 5002);
        fileIs("grow of one more", x, 5002);
    }

    /** Promise 13: "(1 .. 5000)", beyond either end. */
    private static void growTooFewAndTooMany() {
        for (int n : new int[] {0, -1, LEAST, 5001, MOST}) {
            Seen.bad(due, "grow(" + n + ", 1, 1)", x -> x.grow(n, 1, 1));
        }
    }

    /** Promise 13: "from, from + step, ..": bytes, also of numbers that run over. */
    private static void growRunsOver() {
        int[][] starts = {
            {255, 1}, {256, 1}, {0, -1}, {-128, 1}, {0, 255}, {0, 257}, {MOST, 1}, {LEAST, -1}, {MOST, MOST},
            {LEAST, LEAST}, {1, 1 << 24}, {77, 0}
        };
        for (int[] s : starts) {
            byte[] want = new byte[1030];
            for (int i = 0; i < want.length; i++) {
                want[i] = (byte) Math.floorMod(s[0] + (long) i * s[1], 256L);
            }
            TreeHashes x = new TreeHashes();
            due.is("grow from " + s[0] + " by " + s[1], x.grow(want.length, s[0], s[1]), want.length);
            fileIs("grow from " + s[0] + " by " + s[1], x, want);
        }
    }

    /** Promise 13: "REFUSED: it would have more than 20000": just 20000 are not too many. */
    private static void growUpToTheLimit() {
        for (int n : new int[] {1, 2, 1024, 4999, 5000}) {
            TreeHashes x = ofLength(LIMIT - n);
            due.is("grow: " + (LIMIT - n) + " and " + n, x.grow(n, LIMIT - n, 1), LIMIT);
            fileIs("grow: up to the limit", x, LIMIT);
            due.is("grow: the last byte", x.spoil(LIMIT - 1, 0), (LIMIT - 1) & 255);
            due.is("grow: none behind it", x.spoil(LIMIT, 0), TreeHashes.BAD);
        }
    }

    /** Promise 13: "REFUSED: it would have more than 20000": by one; none of them comes. */
    private static void growRefused() {
        for (int n : new int[] {1, 2, 1024, 4999, 5000}) {
            int had = LIMIT + 1 - n;
            TreeHashes x = ofLength(had);
            due.is("grow: " + had + " and " + n, x.grow(n, had, 1), TreeHashes.REFUSED);
            fileIs("grow: behind REFUSED", x, had);
        }
    }

    /** Promise 13: "BAD; REFUSED": a number that is not as said is BAD of a full file too. */
    private static void growBadBeforeRefused() {
        TreeHashes x = ofLength(LIMIT);
        due.is("grow(0, 1, 1) of a full one", x.grow(0, 1, 1), TreeHashes.BAD);
        due.is("grow(-1, 1, 1) of a full one", x.grow(-1, 1, 1), TreeHashes.BAD);
        due.is("grow(5001, 1, 1) of a full one", x.grow(5001, 1, 1), TreeHashes.BAD);
        due.is("grow(most, 1, 1) of a full one", x.grow(MOST, 1, 1), TreeHashes.BAD);
        due.is("grow(1, 1, 1) of a full one", x.grow(1, 1, 1), TreeHashes.REFUSED);
        due.is("grow(5000, 1, 1) of a full one", x.grow(5000, 1, 1), TreeHashes.REFUSED);
        fileIs("grow: a full one behind all", x, LIMIT);
    }

    /** Promise 14: "Byte i of the FILE": the first and the last, of one byte, of chunks, of a full one. */
    private static void spoilFirstAndLast() {
        for (int n : new int[] {1, 2, 1024, 1025, LIMIT}) {
            TreeHashes x = ofLength(n);
            byte[] want = Due.steps(n, 0, 1);
            want[0] ^= 64;
            due.is("spoil(0, 64) of " + n, x.spoil(0, 64), want[0] & 255);
            fileIs("spoil: the first of " + n, x, want);
            want[n - 1] ^= (byte) 129;
            due.is("spoil(" + (n - 1) + ", 129)", x.spoil(n - 1, 129), want[n - 1] & 255);
            fileIs("spoil: the last of " + n, x, want);
        }
    }

    /** Promise 14: "BAD: there is none": before the first, behind the last, of an empty file. */
    private static void spoilNoSuchByte() {
        for (int n : new int[] {0, 1, 1024, LIMIT}) {
            for (int i : new int[] {-1, n, n + 1, LIMIT, LEAST, MOST}) {
                TreeHashes x = ofLength(n);
                due.is("spoil(" + i + ", 1) of " + n, x.spoil(i, 1), TreeHashes.BAD);
                due.is("spoil(" + i + ", 0) of " + n, x.spoil(i, 0), TreeHashes.BAD);
                fileIs("spoil: none such of " + n, x, n);
            }
        }
    }

    /** Promise 14: "becomes itself ^ x (0 .. 255): what it is then": the least and the greatest of both. */
    private static void spoilLeastAndGreatest() {
        TreeHashes x = ofLength(256);
        int[][] calls = {{0, 0, 0}, {0, 255, 255}, {0, 255, 0}, {255, 0, 255}, {255, 255, 0}, {127, 128, 255}};
        for (int[] c : calls) {
            due.is("spoil(" + c[0] + ", " + c[1] + ")", x.spoil(c[0], c[1]), c[2]);
        }
        byte[] want = Due.steps(256, 0, 1);
        want[255] = 0;
        want[127] = (byte) 255;
        fileIs("spoil: the least and the greatest", x, want);
    }

    /** Promise 14: "BAD: .. x is another one", beyond either end. */
    private static void spoilAnotherOne() {
        for (int wrong : new int[] {-1, 256, LEAST, MOST}) {
            Seen.bad(due, "spoil(0, " + wrong + ")", x -> x.spoil(0, wrong));
            Seen.bad(due, "spoil(2099, " + wrong + ")", x -> x.spoil(2099, wrong));
            Seen.bad(due, "spoil(2100, " + wrong + ")", x -> x.spoil(2100, wrong));
        }
    }

    /** Promise 14: "BAD: there is none": what shorten() took away. */
    private static void spoilOfAShortenedFile() {
        TreeHashes x = ofLength(1500);
        x.shorten(1000);
        due.is("spoil(999, 255)", x.spoil(999, 0), 999 & 255);
        due.is("spoil(1000, 255)", x.spoil(1000, 255), TreeHashes.BAD);
        due.is("spoil(1499, 255)", x.spoil(1499, 255), TreeHashes.BAD);
        fileIs("spoil: shortened", x, 1000);
    }

    /** Promise 15: "its first n bytes alone: how many went": all of them, all but one, one, none. */
    private static void shortenToNoneAndToAll() {
        for (int n : new int[] {0, 1, 1024, 1025, LIMIT}) {
            for (int kept : new int[] {0, 1, n - 1, n}) {
                if (kept >= 0 && kept <= n) {
                    TreeHashes x = ofLength(n);
                    due.is("shorten(" + kept + ") of " + n, x.shorten(kept), n - kept);
                    fileIs("shorten(" + kept + ") of " + n, x, kept);
                }
            }
        }
    }

    /** Promise 15: "BAD: it has not so many". */
    private static void shortenTooMany() {
        for (int n : new int[] {0, 1, 1024, LIMIT}) {
            for (int kept : new int[] {n + 1, LIMIT + 1, MOST}) {
                TreeHashes x = ofLength(n);
                due.is("shorten(" + kept + ") of " + n, x.shorten(kept), TreeHashes.BAD);
                fileIs("shorten: too many of " + n, x, n);
            }
        }
    }

    /** Promise 15: "BAD: .. n is below 0". */
    private static void shortenBelowNone() {
        for (int kept : new int[] {-1, -2, LEAST}) {
            Seen.bad(due, "shorten(" + kept + ")", x -> x.shorten(kept));
            due.is("shorten(" + kept + ") of none", new TreeHashes().shorten(kept), TreeHashes.BAD);
        }
    }

    /** Promise 15: "its first n bytes alone": a full file has room again, and nothing of before comes back. */
    private static void shortenMakesRoom() {
        TreeHashes x = ofLength(LIMIT);
        due.is("shorten(19999)", x.shorten(LIMIT - 1), 1);
        due.is("shorten: two more", x.grow(2, 0, 0), TreeHashes.REFUSED);
        due.is("shorten: one more", x.grow(1, 7, 0), LIMIT);
        byte[] want = Due.steps(LIMIT, 0, 1);
        want[LIMIT - 1] = 7;
        fileIs("shorten: full again", x, want);
        x.shorten(10);
        x.grow(1015, 3, 0);
        want = Due.steps(1025, 0, 1);
        Arrays.fill(want, 10, 1025, (byte) 3);
        fileIs("shorten: other bytes behind it", x, want);
    }

    /** Promise 16: "The first 32 bytes of the output of the FILE": of an empty, a small and a full one. */
    private static void rootEmptyAndFull() {
        for (int n : new int[] {0, 1, 63, 64, 65, 1023, 1024, 1025, 16384, 16385, 19456, 19457, LIMIT - 1, LIMIT}) {
            fileIs("root of " + n, ofLength(n), n);
        }
    }

    /** Promise 16: the 32 bytes "come to a register": an empty, one of 32 and a full one have just them. */
    private static void rootInsteadOfWhatWas() {
        for (int had : new int[] {0, 31, 32, 33, 200}) {
            TreeHashes x = ofLength(100);
            Due.put(x, 2, new byte[had]);
            due.is("root(2) of " + had, x.root(2), 100);
            due.is("root: instead of " + had, Due.hex(x, 2), Due.hex(PlainTree.plainHash(Due.steps(100, 0, 1))));
        }
    }

    /** Promise 16: no more than the register has changed. */
    private static void rootLeavesAllElse() {
        Seen.stays(due, Seen::full, "root(6), then clear(6)", x -> {
            int length = x.root(6);
            x.clear(6);
            return length;
        }, 2100);
    }
}
