import java.util.Arrays;

/**
 * The document's terms 1 and 2 once more, over whole arrays and by recursion from the root down, so
 * that it shares no way of working with the class under test.
 */
final class PlainTree {
    static final long[] START = {
        1779033703L, 3144134277L, 1013904242L, 2773480762L, 1359893119L, 2600822924L, 528734635L, 1541459225L
    };
    private static final int[][] TURNS = {
        {0, 4, 8, 12}, {1, 5, 9, 13}, {2, 6, 10, 14}, {3, 7, 11, 15},
        {0, 5, 10, 15}, {1, 6, 11, 12}, {2, 7, 8, 13}, {3, 4, 9, 14}
    };
    private static final int[] NEW_ORDER = {2, 6, 3, 10, 7, 0, 4, 13, 1, 11, 12, 5, 9, 14, 15, 8};

    private PlainTree() {
    }

    static int[] start() {
        int[] key = new int[8];
        for (int k = 0; k < 8; k++) {
            key[k] = (int) START[k];
        }
        return key;
    }

    static int[] mix(int[] chain, int[] block, long count, int length, int flags) {
        int[] v = Arrays.copyOf(chain, 16);
        System.arraycopy(start(), 0, v, 8, 4);
        v[12] = (int) (count & 0xFFFFFFFFL);
        v[13] = (int) (count >> 32);
        v[14] = length;
        v[15] = flags;
        int[] w = block.clone();
        for (int round = 1; round <= 7; round++) {
            for (int t = 0; t < 8; t++) {
                turn(v, TURNS[t], w[2 * t], w[2 * t + 1]);
            }
            int[] old = w.clone();
            for (int k = 0; k < 16; k++) {
                w[k] = old[NEW_ORDER[k]];
            }
        }
        for (int i = 0; i < 8; i++) {
            v[i] = v[i] ^ v[i + 8];
            v[i + 8] = v[i + 8] ^ chain[i];
        }
        return v;
    }

    private static void turn(int[] v, int[] t, int x, int y) {
        v[t[0]] += v[t[1]] + x;
        v[t[3]] = Integer.rotateRight(v[t[3]] ^ v[t[0]], 16);
        v[t[2]] += v[t[3]];
        v[t[1]] = Integer.rotateRight(v[t[1]] ^ v[t[2]], 12);
        v[t[0]] += v[t[1]] + y;
        v[t[3]] = Integer.rotateRight(v[t[3]] ^ v[t[0]], 8);
        v[t[2]] += v[t[3]];
        v[t[1]] = Integer.rotateRight(v[t[1]] ^ v[t[2]], 7);
    }

    static int chunks(int length) {
        return Math.max(1, (length + 1023) / 1024);
    }

    static int left(int chunks) {
        return Integer.highestOneBit(chunks - 1);
    }

    /** The sixteen words of the last mix of a tree; outputCount is below 0 for one that is no root. */
    static int[] last(byte[] bytes, int[] key, int base, int firstChunk, long outputCount) {
        int chunks = chunks(bytes.length);
        int more = outputCount < 0 ? 0 : 8;
        if (chunks == 1) {
            return lastOfChunk(bytes, key, base, outputCount < 0 ? firstChunk : outputCount, more);
        }
        int left = left(chunks);
        byte[] leftBytes = Arrays.copyOfRange(bytes, 0, 1024 * left);
        byte[] rightBytes = Arrays.copyOfRange(bytes, 1024 * left, bytes.length);
        int[] block = Arrays.copyOf(last(leftBytes, key, base, firstChunk, -1), 16);
        System.arraycopy(last(rightBytes, key, base, firstChunk + left, -1), 0, block, 8, 8);
        return mix(key, block, Math.max(0, outputCount), 64, base + 4 + more);
    }

    private static int[] lastOfChunk(byte[] bytes, int[] key, int base, long lastCount, int more) {
        int blocks = Math.max(1, (bytes.length + 63) / 64);
        int[] chain = key;
        for (int b = 0; b < blocks; b++) {
            byte[] own = Arrays.copyOfRange(bytes, 64 * b, Math.min(bytes.length, 64 * b + 64));
            boolean isLast = b == blocks - 1;
            int flags = base + (b == 0 ? 1 : 0) + (isLast ? 2 + more : 0);
            // A root's chunk has number 0, whichever block of the output is asked for.
            long count = isLast || more == 0 ? lastCount : 0;
            int[] all = mix(chain, words(Arrays.copyOf(own, 64)), count, own.length, flags);
            if (isLast) {
                return all;
            }
            chain = Arrays.copyOf(all, 8);
        }
        throw new IllegalStateException("a chunk has a last block");
    }

    static int[] words(byte[] bytes) {
        int[] words = new int[bytes.length / 4];
        for (int i = 0; i < bytes.length; i++) {
            words[i / 4] += (bytes[i] & 255) << (i % 4 * 8);
        }
        return words;
    }

    static byte[] bytes(int[] words) {
        byte[] bytes = new byte[4 * words.length];
        for (int i = 0; i < bytes.length; i++) {
            bytes[i] = (byte) (words[i / 4] >> (i % 4 * 8));
        }
        return bytes;
    }

    static byte[] output(byte[] bytes, int[] key, int base, int n, long place) {
        byte[] given = new byte[n];
        byte[] piece = {};
        for (int i = 0; i < n; i++) {
            long at = place + i;
            if (i == 0 || at % 64 == 0) {
                piece = bytes(last(bytes, key, base, 0, at / 64));
            }
            given[i] = piece[(int) (at % 64)];
        }
        return given;
    }

    static byte[] plainHash(byte[] bytes) {
        return output(bytes, start(), 0, 32, 0);
    }

    static int[] contextKey(byte[] context) {
        return words(output(context, start(), 32, 32, 0));
    }
}
