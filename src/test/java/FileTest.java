import java.util.Arrays;

/** Promises 13 to 16: the file. */
public final class FileTest {
    private static final Due due = new Due("FileTest");

    public static void main(String[] args) {
        promise13Grow();
        promise13GrowUpToTheLimit();
        promise13GrowWrong();
        promise14Spoil();
        promise15Shorten();
        promise16Root();
        due.end();
    }

    private static void fileIs(String what, TreeHashes x, byte[] want) {
        due.is(what + ": root(7)", x.root(7), want.length);
        due.is(what, Due.hex(x, 7), Due.hex(PlainTree.plainHash(want)));
    }

    private static byte[] joined(byte[] a, byte[] b) {
        byte[] all = Arrays.copyOf(a, a.length + b.length);
        System.arraycopy(b, 0, all, a.length, b.length);
        return all;
    }

    private static void promise13Grow() {
        TreeHashes x = new TreeHashes();
        byte[] all = new byte[0];
        int[][] calls = {
            {1, 5, 0}, {300, -7, -1}, {5000, 0, 1}, {723, Integer.MAX_VALUE, Integer.MAX_VALUE},
            {1024, 256, 513}, {1, 0, 0}
        };
        for (int[] c : calls) {
            all = joined(all, Due.steps(c[0], c[1], c[2]));
            due.is("grow of " + c[0], x.grow(c[0], c[1], c[2]), all.length);
            fileIs("grow: file of " + all.length, x, all);
        }
    }

    private static void promise13GrowUpToTheLimit() {
        TreeHashes x = new TreeHashes();
        for (int i = 1; i <= 3; i++) {
            due.is("grow: 5000 more", x.grow(5000, 0, 1), 5000 * i);
        }
        due.is("grow: 15000 and 4999", x.grow(4999, 0, 1), 19999);
        due.is("grow: 19999 and 2", x.grow(2, 0, 1), TreeHashes.REFUSED);
        due.is("grow: after REFUSED", x.root(0), 19999);
        due.is("grow: 19999 and 1", x.grow(1, 0, 1), 20000);
        due.is("grow: 20000 and 1", x.grow(1, 0, 1), TreeHashes.REFUSED);
        due.is("grow: 20000 and 5001", x.grow(5001, 0, 1), TreeHashes.BAD);
        due.is("grow: 20000 and none", x.grow(0, 0, 1), TreeHashes.BAD);
        due.is("grow: at last", x.root(0), 20000);
    }

    private static void promise13GrowWrong() {
        TreeHashes x = new TreeHashes();
        x.grow(7, 1, 1);
        for (int n : new int[] {-1, 0, 5001, Integer.MIN_VALUE, Integer.MAX_VALUE}) {
            due.is("grow(" + n + ", 1, 1)", x.grow(n, 1, 1), TreeHashes.BAD);
        }
        fileIs("grow: after BAD", x, Due.steps(7, 1, 1));
    }

    private static void promise14Spoil() {
        TreeHashes x = new TreeHashes();
        x.grow(2000, 0, 1);
        byte[] all = Due.steps(2000, 0, 1);
        int[][] calls = {{0, 255}, {1999, 1}, {1024, 128}, {1023, 0}, {0, 15}, {200, 200}};
        for (int[] c : calls) {
            all[c[0]] ^= (byte) c[1];
            due.is("spoil(" + c[0] + ", " + c[1] + ")", x.spoil(c[0], c[1]), all[c[0]] & 255);
            fileIs("spoil(" + c[0] + ", " + c[1] + "): file", x, all);
        }
        for (int i : new int[] {-1, 2000, 19999, 20000, Integer.MIN_VALUE, Integer.MAX_VALUE}) {
            due.is("spoil(" + i + ", 1)", x.spoil(i, 1), TreeHashes.BAD);
        }
        for (int wrong : new int[] {-1, 256, 257, Integer.MIN_VALUE, Integer.MAX_VALUE}) {
            due.is("spoil(0, " + wrong + ")", x.spoil(0, wrong), TreeHashes.BAD);
        }
        fileIs("spoil: after BAD", x, all);
    }

    private static void promise15Shorten() {
        TreeHashes x = new TreeHashes();
        x.grow(3000, 0, 1);
        due.is("shorten(3001)", x.shorten(3001), TreeHashes.BAD);
        due.is("shorten(-1)", x.shorten(-1), TreeHashes.BAD);
        due.is("shorten(least)", x.shorten(Integer.MIN_VALUE), TreeHashes.BAD);
        due.is("shorten(most)", x.shorten(Integer.MAX_VALUE), TreeHashes.BAD);
        fileIs("shorten: after BAD", x, Due.steps(3000, 0, 1));
        due.is("shorten(3000)", x.shorten(3000), 0);
        due.is("shorten(1025)", x.shorten(1025), 1975);
        fileIs("shorten: 1025", x, Due.steps(1025, 0, 1));
        due.is("shorten: spoil behind", x.spoil(1025, 1), TreeHashes.BAD);
        x.grow(100, 9, 1);
        fileIs("shorten: grown again", x, joined(Due.steps(1025, 0, 1), Due.steps(100, 9, 1)));
        due.is("shorten(0)", x.shorten(0), 1125);
        fileIs("shorten: none", x, new byte[0]);
        due.is("shorten(0) again", x.shorten(0), 0);
        due.is("shorten(1) of none", x.shorten(1), TreeHashes.BAD);
    }

    private static void promise16Root() {
        for (int n : new int[] {0, 1, 64, 65, 1024, 1025, 2048, 2049, 3073, 5000}) {
            TreeHashes x = new TreeHashes();
            if (n > 0) {
                x.grow(n, n, 13);
            }
            fileIs("root of " + n, x, Due.steps(n, n, 13));
        }
        TreeHashes x = new TreeHashes();
        x.grow(1500, 0, 1);
        x.fill(0, 100, 0, 1);
        Due.put(x, 3, Due.steps(200, 0, 1));
        due.is("root(3)", x.root(3), 1500);
        due.is("root: instead of what was", x.size(3), 32);
        due.is("root: again the same", x.root(4), 1500);
        due.is("root: both", Due.hex(x, 3), Due.hex(x, 4));
        due.is("root: the hashers stay", x.told(0, 1), 100);
        for (int r : new int[] {-1, 8, Integer.MIN_VALUE, Integer.MAX_VALUE}) {
            due.is("root(" + r + ")", x.root(r), TreeHashes.BAD);
        }
    }
}
