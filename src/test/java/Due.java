/**
 * Compares answers with those that are due, and remembers whether all were right.
 *
 * <p>Nothing is promised of an object after its 512th call, so the tests make a new one before that.
 */
final class Due {
    private final String test;
    private int wrong;

    Due(String test) {
        this.test = test;
    }

    void is(String call, long got, long want) {
        if (got != want) {
            wrong++;
            System.out.println(test + ": " + call + " answered " + got + ", due is " + want);
        }
    }

    void is(String call, String got, String want) {
        if (!got.equals(want)) {
            wrong++;
            System.out.println(test + ": " + call + " gave " + got + ", due is " + want);
        }
    }

    void end() {
        System.out.println(test + ": " + (wrong == 0 ? "all as due" : wrong + " not as due"));
        if (wrong != 0) {
            System.exit(1);
        }
    }

    /** The bytes of a register as hex digits, two a byte. */
    static String hex(TreeHashes x, int r) {
        StringBuilder text = new StringBuilder();
        int size = x.size(r);
        for (int i = 0; i < size; i++) {
            text.append(String.format("%02x", x.at(r, i)));
        }
        return text.toString();
    }

    static String hex(byte[] bytes) {
        StringBuilder text = new StringBuilder();
        for (byte b : bytes) {
            text.append(String.format("%02x", b & 255));
        }
        return text.toString();
    }

    /** Puts bytes into a register, instead of what it has. */
    static void put(TreeHashes x, int r, byte[] bytes) {
        x.clear(r);
        for (int first = 0; first < bytes.length; first += 8) {
            int n = Math.min(8, bytes.length - first);
            long w = 0;
            for (int i = 0; i < n; i++) {
                w |= (bytes[first + i] & 255L) << (8 * i);
            }
            x.add(r, n, w);
        }
    }

    /** The bytes that fill() and grow() make. */
    static byte[] steps(int n, int from, int step) {
        byte[] bytes = new byte[n];
        for (int i = 0; i < n; i++) {
            bytes[i] = (byte) (from + i * step);
        }
        return bytes;
    }
}
