/** Promises 1 to 5: a new object, and the registers. */
public final class RegistersTest {
    private static final Due due = new Due("RegistersTest");

    public static void main(String[] args) {
        promise1NewObject();
        promise2Add();
        promise2AddUpToTheLimit();
        promise2AddWrong();
        promise3Clear();
        promise4Size();
        promise5At();
        due.end();
    }

    private static void promise1NewObject() {
        TreeHashes x = new TreeHashes();
        for (int r = 0; r < 8; r++) {
            due.is("new: size(" + r + ")", x.size(r), 0);
            due.is("new: at(" + r + ", 0)", x.at(r, 0), TreeHashes.NONE);
        }
        String ofNothing = Due.hex(PlainTree.plainHash(new byte[0]));
        for (int h = 0; h < 4; h++) {
            for (int what = 0; what <= 4; what++) {
                due.is("new: told(" + h + ", " + what + ")", x.told(h, what), 0);
            }
            due.is("new: chain(" + h + ", 0, 0)", x.chain(h, 0, 0), 0);
            x.output(h, 7, 32, 0);
            due.is("new: output of hasher " + h, Due.hex(x, 7), ofNothing);
        }
        due.is("new: proof(0)", x.proof(0), TreeHashes.NONE);
        due.is("new: forge(0, 0)", x.forge(0, 0), TreeHashes.BAD);
        due.is("new: spoil(0, 0)", x.spoil(0, 0), TreeHashes.BAD);
        due.is("new: root(6)", x.root(6), 0);
        due.is("new: the file's root", Due.hex(x, 6), ofNothing);
        due.is("new: shorten(0)", x.shorten(0), 0);
        due.is("new: cut(0)", x.cut(0), 0);
        due.is("new: cut(1)", x.cut(1), TreeHashes.BAD);
        twoObjectsAreApart();
    }

    private static void twoObjectsAreApart() {
        TreeHashes x = new TreeHashes();
        TreeHashes y = new TreeHashes();
        x.add(0, 8, -1);
        x.fill(0, 2000, 0, 1);
        x.grow(2000, 0, 1);
        x.prove(0);
        due.is("another object: size(0)", y.size(0), 0);
        due.is("another object: told(0, 1)", y.told(0, 1), 0);
        due.is("another object: root(0)", y.root(0), 0);
        due.is("another object: proof(0)", y.proof(0), TreeHashes.NONE);
    }

    private static void promise2Add() {
        TreeHashes x = new TreeHashes();
        long w = 0x8877665544332211L;
        int had = 0;
        for (int n = 1; n <= 8; n++) {
            due.is("add(3, " + n + ", w)", x.add(3, n, w), had + n);
            for (int i = 0; i < n; i++) {
                due.is("add: byte " + (had + i), x.at(3, had + i), (i + 1) * 0x11);
            }
            due.is("add: nothing behind", x.at(3, had + n), TreeHashes.NONE);
            had += n;
        }
        due.is("add: another register", x.size(2), 0);
        due.is("add(7, 2, -1)", x.add(7, 2, -1), 2);
        due.is("add: a byte of all bits", x.at(7, 1), 255);
        due.is("add(0, 1, 256)", x.add(0, 1, 256), 1);
        due.is("add: the lowest byte alone", x.at(0, 0), 0);
    }

    private static void promise2AddUpToTheLimit() {
        TreeHashes x = new TreeHashes();
        for (int i = 0; i < 24; i++) {
            x.add(5, 8, 0x0706050403020100L + i);
        }
        due.is("add: 192 bytes and 7", x.add(5, 7, 1), 199);
        due.is("add: 199 bytes and 2", x.add(5, 2, 0x0202), TreeHashes.REFUSED);
        due.is("add: after REFUSED", x.size(5), 199);
        due.is("add: byte 199 after REFUSED", x.at(5, 199), TreeHashes.NONE);
        due.is("add: 199 bytes and 1", x.add(5, 1, 77), 200);
        due.is("add: the last byte", x.at(5, 199), 77);
        due.is("add: 200 bytes and 1", x.add(5, 1, 1), TreeHashes.REFUSED);
        due.is("add: 200 bytes and 9", x.add(5, 9, 1), TreeHashes.BAD);
        due.is("add: after all", x.size(5), 200);
        due.is("clear: all of them", x.clear(5), 200);
        due.is("add: once more", x.add(5, 8, 1), 8);
    }

    private static void promise2AddWrong() {
        TreeHashes x = new TreeHashes();
        x.add(0, 1, 1);
        for (int r : new int[] {-1, 8, 9, Integer.MIN_VALUE, Integer.MAX_VALUE}) {
            due.is("add(" + r + ", 1, 1)", x.add(r, 1, 1), TreeHashes.BAD);
        }
        for (int n : new int[] {-1, 0, 9, 200, Integer.MIN_VALUE, Integer.MAX_VALUE}) {
            due.is("add(0, " + n + ", 1)", x.add(0, n, 1), TreeHashes.BAD);
        }
        due.is("add: after BAD", x.size(0), 1);
    }

    private static void promise3Clear() {
        TreeHashes x = new TreeHashes();
        x.add(0, 5, 1);
        x.add(1, 3, 1);
        due.is("clear(0)", x.clear(0), 5);
        due.is("clear: size", x.size(0), 0);
        due.is("clear: byte 0", x.at(0, 0), TreeHashes.NONE);
        due.is("clear: another register", x.size(1), 3);
        due.is("clear(0) again", x.clear(0), 0);
        x.add(0, 1, 9);
        due.is("clear: what comes then", x.at(0, 0), 9);
        for (int r : new int[] {-1, 8, Integer.MIN_VALUE, Integer.MAX_VALUE}) {
            due.is("clear(" + r + ")", x.clear(r), TreeHashes.BAD);
        }
    }

    private static void promise4Size() {
        TreeHashes x = new TreeHashes();
        for (int r = 0; r < 8; r++) {
            x.add(r, r + 1, -1);
        }
        for (int r = 0; r < 8; r++) {
            due.is("size(" + r + ")", x.size(r), r + 1);
        }
        for (int r : new int[] {-1, 8, Integer.MIN_VALUE, Integer.MAX_VALUE}) {
            due.is("size(" + r + ")", x.size(r), TreeHashes.BAD);
        }
    }

    private static void promise5At() {
        TreeHashes x = new TreeHashes();
        x.add(7, 4, 0xFF807F00L);
        int[] want = {0, 127, 128, 255};
        for (int i = 0; i < 4; i++) {
            due.is("at(7, " + i + ")", x.at(7, i), want[i]);
        }
        for (int i : new int[] {-1, 4, 199, 200, Integer.MIN_VALUE, Integer.MAX_VALUE}) {
            due.is("at(7, " + i + ")", x.at(7, i), TreeHashes.NONE);
        }
        for (int r : new int[] {-1, 8, Integer.MIN_VALUE, Integer.MAX_VALUE}) {
            due.is("at(" + r + ", 0)", x.at(r, 0), TreeHashes.BAD);
            due.is("at(" + r + ", -1)", x.at(r, -1), TreeHashes.BAD);
        }
    }
}
