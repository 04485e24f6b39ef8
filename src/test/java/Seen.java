import java.util.function.Supplier;
import java.util.function.ToIntFunction;

/** An object with something in every place, and all that the calls tell of an object. */
final class Seen {
    static final int REGISTER_BYTES = 40;
    static final int PROOF_BYTES = 120;

    private Seen() {
    }

    /** Registers 0 and 7, all hashers, the file and the proof have bytes; the hashers are of every mode. */
    static TreeHashes full() {
        TreeHashes x = new TreeHashes();
        Due.put(x, 0, Due.steps(32, 5, 3));
        Due.put(x, 7, Due.steps(11, 200, 1));
        x.begin(0, 1, 0);
        x.fill(0, 1100, 1, 1);
        x.fill(1, 64, 2, 1);
        x.fill(2, 1024, 3, 1);
        x.begin(3, 2, 7);
        x.fill(3, 3100, 4, 1);
        x.grow(2100, 5, 1);
        x.prove(2);
        return x;
    }

    /** A call that answers BAD, NONE, REFUSED or what it is asked for, and leaves all as it was. */
    static void stays(Due due, Supplier<TreeHashes> made, String call, ToIntFunction<TreeHashes> asked, int want) {
        TreeHashes x = made.get();
        due.is(call, asked.applyAsInt(x), want);
        due.is(call + ": what is seen behind it", all(x), all(made.get()));
    }

    static void bad(Due due, String call, ToIntFunction<TreeHashes> asked) {
        stays(due, Seen::full, call, asked, TreeHashes.BAD);
    }

    /** All that can be seen with some 300 calls; it takes register 6 for what comes out. */
    static String all(TreeHashes x) {
        StringBuilder text = new StringBuilder();
        for (int r = 0; r < 8; r++) {
            int size = x.size(r);
            text.append("\nregister ").append(r).append(" of ").append(size);
            for (int i = 0; i < size && i < REGISTER_BYTES; i++) {
                text.append(' ').append(x.at(r, i));
            }
        }
        for (int h = 0; h < 4; h++) {
            oneHasher(x, h, text);
        }
        text.append("\nfile of ").append(x.root(6));
        firstBytes(x, text);
        text.append("\nproof");
        for (int i = 0; i < PROOF_BYTES; i++) {
            text.append(' ').append(x.proof(i));
        }
        return text.toString();
    }

    private static void oneHasher(TreeHashes x, int h, StringBuilder text) {
        text.append("\nhasher ").append(h);
        for (int what = 0; what <= 4; what++) {
            text.append(' ').append(x.told(h, what));
        }
        for (int i = 0; i < 5; i++) {
            text.append(' ').append(x.chain(h, i, i));
        }
        x.output(h, 6, 8, 0);
        firstBytes(x, text);
    }

    private static void firstBytes(TreeHashes x, StringBuilder text) {
        for (int i = 0; i < 8; i++) {
            text.append(' ').append(x.at(6, i));
        }
    }
}
