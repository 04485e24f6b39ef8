/** Compares answers with those that are due, and remembers whether all were right. */
final class Due {
    private final String test;
    private int wrong;

    Due(String test) {
        this.test = test;
    }

    void is(String call, long got, long want) {
        if (got != want) {
            wrong++;
            System.out.println(test + ": " + call + " answered " + got + ", due is " + want);
        }
    }

    void is(String call, String got, String want) {
        if (!got.equals(want)) {
            wrong++;
            System.out.println(test + ": " + call + " gave " + got + ", due is " + want);
        }
    }

    void end() {
        System.out.println(test + ": " + (wrong == 0 ? "all as due" : wrong + " not as due"));
        if (wrong != 0) {
            System.exit(1);
        }
    }

    /** The bytes of a register as hex digits, two a byte. */
    static String hex(TreeHashes x, int r) {
        StringBuilder text = new StringBuilder();
        for (int i = 0; i < x.size(r); i++) {
            text.append(String.format("%02x", x.at(r, i)));
        }
        return text.toString();
    }

    static String hex(byte[] bytes) {
        StringBuilder text = new StringBuilder();
        for (byte b : bytes) {
            text.append(String.format("%02x", b & 255));
        }
        return text.toString();
    }

    /** Puts bytes into a register, instead of what it has. */
    static void put(TreeHashes x, int r, byte[] bytes) {
        x.clear(r);
        for (byte b : bytes) {
            x.add(r, 1, b);
        }
    }

    /** The bytes that fill() and grow() make. */
    static byte[] steps(int n, int from, int step) {
        byte[] bytes = new byte[n];
        for (int i = 0; i < n; i++) {
            bytes[i] = (byte) (from + i * step);
        }
        return bytes;
    }
}
