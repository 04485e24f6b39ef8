import java.util.Arrays;

/** Each sentence on registers that names an edge has a test of its own, with the sentence above it. */
public final class RegisterEdgesTest {
    private static final Due due = new Due("RegisterEdgesTest");
    private static final int LEAST = Integer.MIN_VALUE;
    private static final int MOST = Integer.MAX_VALUE;

    public static void main(String[] args) {
        firstAndLastRegister();
        noSuchRegister();
        atFirstNone();
        addFewestAndMost();
        addTooFewAndTooMany();
        addTheLowestBytes();
        addUpToTheLimit();
        addRefused();
        addBadBeforeRefused();
        clearEmptyAndFull();
        sizeEmptyAndFull();
        atFirstAndLast();
        atNone();
        atBadBeforeNone();
        oneRegisterSeveralTimes();
        theLastCallIsAsGood();
        due.end();
    }

    private static TreeHashes withBytes(int r, int n) {
        TreeHashes x = new TreeHashes();
        Due.put(x, r, Due.steps(n, 1, 1));
        return x;
    }

    /** "REGISTERS 0 .. 7": the first and the last one, in every call that names a register. */
    private static void firstAndLastRegister() {
        for (int r : new int[] {0, 7}) {
            TreeHashes x = new TreeHashes();
            due.is("add(" + r + ", 8, 5)", x.add(r, 8, 5), 8);
            due.is("size(" + r + ")", x.size(r), 8);
            due.is("at(" + r + ", 0)", x.at(r, 0), 5);
            due.is("take(0, " + r + ")", x.take(0, r), 8);
            due.is("begin(1, 2, " + r + ")", x.begin(1, 2, r), 0);
            due.is("output(0, " + r + ", 32, 0)", x.output(0, r, 32, 0), 32);
            due.is("begin(1, 1, " + r + ")", x.begin(1, 1, r), 0);
            due.is("root(" + r + ")", x.root(r), 0);
            due.is("prove(0)", x.prove(0), 0);
            due.is("check(" + r + ", 0, 0)", x.check(r, 0, 0), 1);
            due.is("clear(" + r + ")", x.clear(r), 32);
            due.is("the one between stays empty", x.size(3), 0);
        }
    }

    /** "In all calls BAD: .. there is no such one": nothing has changed then. */
    private static void noSuchRegister() {
        for (int r : new int[] {-1, 8, LEAST, MOST}) {
            Seen.bad(due, "add(" + r + ", 1, 1)", x -> x.add(r, 1, 1));
            Seen.bad(due, "clear(" + r + ")", x -> x.clear(r));
            Seen.bad(due, "size(" + r + ")", x -> x.size(r));
            Seen.bad(due, "at(" + r + ", 0)", x -> x.at(r, 0));
            Seen.bad(due, "begin(0, 1, " + r + ")", x -> x.begin(0, 1, r));
            Seen.bad(due, "begin(0, 2, " + r + ")", x -> x.begin(0, 2, r));
            Seen.bad(due, "take(0, " + r + ")", x -> x.take(0, r));
            Seen.bad(due, "output(0, " + r + ", 1, 0)", x -> x.output(0, r, 1, 0));
            Seen.bad(due, "root(" + r + ")", x -> x.root(r));
            Seen.bad(due, "check(" + r + ", 2100, 2)", x -> x.check(r, 2100, 2));
        }
    }

    /** "REGISTERS .. have up to 200 bytes each, at first none", promise 1: "Registers without bytes". */
    private static void atFirstNone() {
        TreeHashes x = new TreeHashes();
        for (int r = 0; r < 8; r++) {
            due.is("new: size(" + r + ")", x.size(r), 0);
            due.is("new: at(" + r + ", 0)", x.at(r, 0), TreeHashes.NONE);
            due.is("new: at(" + r + ", 199)", x.at(r, 199), TreeHashes.NONE);
            due.is("new: clear(" + r + ")", x.clear(r), 0);
        }
    }

    /** Promise 2: "The n lowest bytes (1 .. 8)": the fewest and the most, into an empty register. */
    private static void addFewestAndMost() {
        TreeHashes x = new TreeHashes();
        due.is("add(0, 1, w)", x.add(0, 1, 0x8877665544332211L), 1);
        due.is("add(0, 1, w): bytes", Due.hex(x, 0), "11");
        due.is("add(1, 8, w)", x.add(1, 8, 0x8877665544332211L), 8);
        due.is("add(1, 8, w): bytes", Due.hex(x, 1), "1122334455667788");
    }

    /** Promise 2: "(1 .. 8)", beyond either end. */
    private static void addTooFewAndTooMany() {
        for (int n : new int[] {0, -1, LEAST, 9, 10, MOST}) {
            Seen.bad(due, "add(0, " + n + ", 1)", x -> x.add(0, n, 1));
        }
    }

    /** Promise 2: "The n lowest bytes .. of w, the lowest first", of the least and the greatest w too. */
    private static void addTheLowestBytes() {
        long[] words = {0, -1, 255, 256, Long.MIN_VALUE, Long.MAX_VALUE, 0xFF00000000L, -256};
        for (long w : words) {
            for (int n = 1; n <= 8; n++) {
                TreeHashes x = new TreeHashes();
                x.add(2, n, w);
                StringBuilder want = new StringBuilder();
                for (int i = 0; i < n; i++) {
                    want.append(String.format("%02x", (w >> (8 * i)) & 255));
                }
                due.is("add(2, " + n + ", " + w + ")", Due.hex(x, 2), want.toString());
            }
        }
    }

    /** Promise 2: "REFUSED: it would have more than 200": just 200 are not too many, for each n. */
    private static void addUpToTheLimit() {
        for (int n = 1; n <= 8; n++) {
            TreeHashes x = withBytes(4, 200 - n);
            due.is("add: " + (200 - n) + " and " + n, x.add(4, n, -1), 200);
            due.is("add: the last one of 200", x.at(4, 199), 255);
            due.is("add: the one before those", x.at(4, 199 - n), 200 - n);
            due.is("add: none behind 200", x.at(4, 200), TreeHashes.NONE);
        }
    }

    /** Promise 2: "REFUSED: it would have more than 200": one too many, for each n; none of them comes. */
    private static void addRefused() {
        for (int n = 1; n <= 8; n++) {
            int had = 201 - n;
            TreeHashes x = withBytes(4, had);
            String before = Due.hex(x, 4);
            due.is("add: " + had + " and " + n, x.add(4, n, -1), TreeHashes.REFUSED);
            due.is("add: bytes behind REFUSED", Due.hex(x, 4), before);
            due.is("add: another register is not full", x.add(5, n, -1), n);
        }
    }

    /** Promise 2: "BAD; REFUSED": a number that is not as said is BAD in a full register too. */
    private static void addBadBeforeRefused() {
        TreeHashes x = withBytes(4, 200);
        due.is("add(4, 9, 1) of a full one", x.add(4, 9, 1), TreeHashes.BAD);
        due.is("add(4, 0, 1) of a full one", x.add(4, 0, 1), TreeHashes.BAD);
        due.is("add(4, most, 1) of a full one", x.add(4, MOST, 1), TreeHashes.BAD);
        due.is("add(4, 1, 1) of a full one", x.add(4, 1, 1), TreeHashes.REFUSED);
        due.is("add(4, 8, 1) of a full one", x.add(4, 8, 1), TreeHashes.REFUSED);
    }

    /** Promise 3: "A register is without bytes: how many it had", of an empty and of a full one. */
    private static void clearEmptyAndFull() {
        TreeHashes x = withBytes(6, 200);
        x.add(5, 1, 1);
        due.is("clear of a full one", x.clear(6), 200);
        due.is("clear: size", x.size(6), 0);
        due.is("clear: the first byte", x.at(6, 0), TreeHashes.NONE);
        due.is("clear: the last byte", x.at(6, 199), TreeHashes.NONE);
        due.is("clear of an empty one", x.clear(6), 0);
        due.is("clear: it has room again", x.add(6, 8, 2), 8);
        due.is("clear: nothing of before", Due.hex(x, 6), "0200000000000000");
        due.is("clear: the one beside it", x.size(5), 1);
        due.is("clear: the one behind it", x.size(7), 0);
    }

    /** Promise 4: "How many bytes a register has", of an empty and of a full one. */
    private static void sizeEmptyAndFull() {
        for (int n : new int[] {0, 1, 199, 200}) {
            due.is("size of " + n, withBytes(1, n).size(1), n);
        }
    }

    /** Promise 5: "Byte i of a register": the first and the last, of one byte, some, and a full one. */
    private static void atFirstAndLast() {
        for (int n : new int[] {1, 2, 199, 200}) {
            TreeHashes x = withBytes(3, n);
            due.is("at(3, 0) of " + n, x.at(3, 0), 1);
            due.is("at(3, " + (n - 1) + ") of " + n, x.at(3, n - 1), n);
        }
        TreeHashes y = new TreeHashes();
        y.add(3, 4, 0xFF80007FL);
        due.is("at: bytes are 0 .. 255", y.at(3, 0) + " " + y.at(3, 1) + " " + y.at(3, 2) + " " + y.at(3, 3),
            "127 0 128 255");
    }

    /** Promise 5: "NONE: there is none": one before the first, one behind the last, and far away. */
    private static void atNone() {
        for (int n : new int[] {0, 1, 199, 200}) {
            for (int i : new int[] {-1, n, n + 1, 200, 201, LEAST, MOST}) {
                due.is("at(3, " + i + ") of " + n, withBytes(3, n).at(3, i), TreeHashes.NONE);
            }
        }
    }

    /** Promise 5: "BAD": no such register, whatever byte is asked for. */
    private static void atBadBeforeNone() {
        for (int i : new int[] {-1, 0, 200, LEAST, MOST}) {
            Seen.bad(due, "at(-1, " + i + ")", x -> x.at(-1, i));
            Seen.bad(due, "at(8, " + i + ")", x -> x.at(8, i));
        }
    }

    /** "Calls may name one register several times": it is the key, is taken in, and has the output at last. */
    private static void oneRegisterSeveralTimes() {
        byte[] key = Due.steps(32, 1, 1);
        int[] words = PlainTree.words(key);
        TreeHashes x = withBytes(3, 32);
        due.is("begin(0, 1, 3)", x.begin(0, 1, 3), 0);
        due.is("take(0, 3)", x.take(0, 3), 32);
        due.is("output(0, 3, 32, 0)", x.output(0, 3, 32, 0), 32);
        byte[] once = PlainTree.output(key, words, 16, 32, 0);
        due.is("output: to the register taken in", Due.hex(x, 3), Due.hex(once));
        due.is("take(0, 3) again", x.take(0, 3), 64);
        x.output(0, 3, 200, 0);
        byte[] both = Arrays.copyOf(key, 64);
        System.arraycopy(once, 0, both, 32, 32);
        due.is("output: again", Due.hex(x, 3), Due.hex(PlainTree.output(both, words, 16, 200, 0)));
    }

    /** "An object is used for at most 512 calls": the 512th answers as the first. */
    private static void theLastCallIsAsGood() {
        TreeHashes x = new TreeHashes();
        for (int call = 1; call <= 511; call++) {
            int in = (call - 1) % 26;
            int want = in == 25 ? 200 : 8 * in + 8;
            due.is("call " + call, in == 25 ? x.clear(0) : x.add(0, 8, call), want);
        }
        due.is("call 512", x.at(0, 8 * 16), 511 & 255);
    }
}
