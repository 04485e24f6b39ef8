/**
 * Hashes of bytes as a tree of chunks, by several hashers, and proofs that chunks belong to a file.
 *
 * <p>Every row is made in the constructors and used again, so no call makes an object.
 */
public final class TreeHashes {
    public static final int NONE = -1;
    public static final int BAD = -2;
    public static final int REFUSED = -3;

    private static final int REGISTERS = 8;
    private static final int REGISTER_ROOM = 200;
    private static final int HASHERS = 4;
    private static final int MOST_TAKEN = 40000;
    private static final int MOST_AT_ONCE = 5000;
    private static final long LAST_PLACE = 1L << 62;
    private static final int FILE_ROOM = 20000;
    private static final int LONGEST_CHECKED = 1000000;
    private static final int CHUNK = 1024;
    private static final int CHAIN_WORDS = 8;
    private static final int CHAIN_BYTES = 32;
    /** A file of 20 chunks has at most five parents above one of them. */
    private static final int PROOF_ROOM = CHUNK + 5 * CHAIN_BYTES;

    private static final int PLAIN = 0;
    private static final int KEYED = 1;
    private static final int CONTEXT = 2;
    private static final int PLAIN_BASE = 0;
    private static final int KEYED_BASE = 16;
    private static final int CONTEXT_BASE = 32;
    private static final int DERIVED_BASE = 64;

    private final Bytes[] registers = new Bytes[REGISTERS];
    private final Hasher[] hashers = new Hasher[HASHERS];
    private final Bytes file = new Bytes(FILE_ROOM);
    private final Bytes proven = new Bytes(PROOF_ROOM);
    /** Hashes the file, contexts and proofs, so that the four hashers stay as they are. */
    private final Hasher worker = new Hasher();
    private final Way way = new Way();
    private final int[] words = new int[CHAIN_WORDS];

    public TreeHashes() {
        for (int r = 0; r < REGISTERS; r++) {
            registers[r] = new Bytes(REGISTER_ROOM);
        }
        for (int h = 0; h < HASHERS; h++) {
            hashers[h] = new Hasher();
        }
    }

    public int add(int r, int n, long w) {
        if (!isRegister(r) || n < 1 || n > 8) {
            return BAD;
        }
        if (!registers[r].hasRoomFor(n)) {
            return REFUSED;
        }
        for (int i = 0; i < n; i++) {
            registers[r].append((int) (w >>> (8 * i)));
        }
        return registers[r].count;
    }

    public int clear(int r) {
        return isRegister(r) ? registers[r].keepFirst(0) : BAD;
    }

    public int size(int r) {
        return isRegister(r) ? registers[r].count : BAD;
    }

    public int at(int r, int i) {
        return isRegister(r) ? registers[r].byteAt(i) : BAD;
    }

    public int begin(int h, int mode, int r) {
        if (!isHasher(h)) {
            return BAD;
        }
        if (mode == PLAIN) {
            hashers[h].restart(PLAIN, PLAIN_BASE, Mix.START, 0);
            return 0;
        }
        if (!isRegister(r)) {
            return BAD;
        }
        if (mode == KEYED && registers[r].count == CHAIN_BYTES) {
            registers[r].readChain(0, words);
            hashers[h].restart(KEYED, KEYED_BASE, words, 0);
            return 0;
        }
        if (mode == CONTEXT) {
            deriveKey(registers[r]);
            hashers[h].restart(CONTEXT, DERIVED_BASE, words, 0);
            return 0;
        }
        return BAD;
    }

    public int take(int h, int r) {
        if (!isHasher(h) || !isRegister(r)) {
            return BAD;
        }
        if (registers[r].count > MOST_TAKEN - hashers[h].taken) {
            return REFUSED;
        }
        hashers[h].absorb(registers[r], 0, registers[r].count);
        return hashers[h].taken;
    }

    public int fill(int h, int n, int from, int step) {
        if (!isHasher(h) || n < 0 || n > MOST_AT_ONCE) {
            return BAD;
        }
        if (n > MOST_TAKEN - hashers[h].taken) {
            return REFUSED;
        }
        for (int i = 0; i < n; i++) {
            hashers[h].absorbByte(from + i * step);
        }
        return hashers[h].taken;
    }

    public int output(int h, int to, int n, long place) {
        if (!isHasher(h) || !isRegister(to) || n < 0 || n > REGISTER_ROOM) {
            return BAD;
        }
        if (place < 0 || place > LAST_PLACE) {
            return BAD;
        }
        hashers[h].prepareLast();
        hashers[h].mix.writeOutput(registers[to], n, place);
        return n;
    }

    public int copy(int from, int to) {
        if (!isHasher(from) || !isHasher(to)) {
            return BAD;
        }
        hashers[to].becomeAs(hashers[from]);
        return hashers[to].taken;
    }

    public int told(int h, int what) {
        if (!isHasher(h)) {
            return BAD;
        }
        switch (what) {
            case 0:
                return hashers[h].mode;
            case 1:
                return hashers[h].taken;
            case 2:
                return hashers[h].closed;
            case 3:
                return hashers[h].depth;
            case 4:
                return hashers[h].inChunk();
            default:
                return BAD;
        }
    }

    public int chain(int h, int i, int k) {
        return isHasher(h) ? hashers[h].stackWord(i, k) : BAD;
    }

    public int grow(int n, int from, int step) {
        if (n < 1 || n > MOST_AT_ONCE) {
            return BAD;
        }
        if (!file.hasRoomFor(n)) {
            return REFUSED;
        }
        for (int i = 0; i < n; i++) {
            file.append(from + i * step);
        }
        return file.count;
    }

    public int spoil(int i, int x) {
        return file.change(i, x);
    }

    public int shorten(int n) {
        return file.keepFirst(n);
    }

    public int root(int to) {
        if (!isRegister(to)) {
            return BAD;
        }
        prepareTree(file, 0, file.count, 0);
        worker.mix.writeOutput(registers[to], CHAIN_BYTES, 0);
        return file.count;
    }

    public int prove(int c) {
        if (!hasChunk(file.count, c)) {
            return BAD;
        }
        proven.keepFirst(0);
        proven.appendFrom(file, c * CHUNK, chunkLength(file.count, c));
        way.lead(chunksOf(file.count), c);
        for (int level = 0; level < way.levels; level++) {
            int first = way.otherFirst[level];
            int length = Math.min(way.otherChunks[level] * CHUNK, file.count - first * CHUNK);
            prepareTree(file, first * CHUNK, length, first);
            worker.mix.run();
            worker.mix.writeChain(words, 0);
            proven.appendChain(words);
        }
        return proven.count;
    }

    public int proof(int i) {
        return proven.byteAt(i);
    }

    public int forge(int i, int x) {
        return proven.change(i, x);
    }

    public int cut(int n) {
        return proven.keepFirst(n);
    }

    public int check(int r, int length, int c) {
        if (!isRegister(r) || registers[r].count != CHAIN_BYTES) {
            return BAD;
        }
        if (length < 0 || length > LONGEST_CHECKED || !hasChunk(length, c)) {
            return BAD;
        }
        way.lead(chunksOf(length), c);
        int own = chunkLength(length, c);
        if (proven.count != own + way.levels * CHAIN_BYTES) {
            return 0;
        }
        prepareTree(proven, 0, own, c);
        climb(own, c);
        return worker.mix.rootBeginsWith(registers[r]) ? 1 : 0;
    }

    private static boolean isRegister(int r) {
        return r >= 0 && r < REGISTERS;
    }

    private static boolean isHasher(int h) {
        return h >= 0 && h < HASHERS;
    }

    private static int chunksOf(int length) {
        return length == 0 ? 1 : (length - 1) / CHUNK + 1;
    }

    private static boolean hasChunk(int length, int c) {
        return c >= 0 && c < chunksOf(length);
    }

    private static int chunkLength(int length, int c) {
        return Math.min(CHUNK, length - c * CHUNK);
    }

    /** Leaves the key of a context in words. */
    private void deriveKey(Bytes context) {
        worker.restart(PLAIN, CONTEXT_BASE, Mix.START, 0);
        worker.absorb(context, 0, context.count);
        worker.prepareLast();
        worker.mix.makeRoot();
        worker.mix.run();
        worker.mix.writeChain(words, 0);
    }

    /** Makes the worker ready for the last mix of a plain tree whose first chunk has the given number. */
    private void prepareTree(Bytes of, int from, int length, int firstChunk) {
        worker.restart(PLAIN, PLAIN_BASE, Mix.START, firstChunk);
        worker.absorb(of, from, length);
        worker.prepareLast();
    }

    /** Goes the way from chunk c up, against the proof's order, as each parent needs the chain below it. */
    private void climb(int own, int c) {
        for (int level = way.levels - 1; level >= 0; level--) {
            proven.readChain(own + level * CHAIN_BYTES, words);
            worker.mix.run();
            if (way.otherFirst[level] < c) {
                worker.mix.joinBehind(words, 0, Mix.START, PLAIN_BASE);
            } else {
                worker.mix.joinBefore(words, Mix.START, PLAIN_BASE);
            }
        }
    }

    /** Bytes in a row with room for so many and no more. */
    private static final class Bytes {
        private final byte[] row;
        private int count;

        Bytes(int room) {
            row = new byte[Math.max(0, room)];
        }

        boolean hasRoomFor(int n) {
            return n <= row.length - count;
        }

        int byteAt(int i) {
            return i >= 0 && i < count ? row[i] & 255 : NONE;
        }

        void append(int b) {
            if (count < row.length) {
                row[count] = (byte) b;
                count++;
            }
        }

        void appendChain(int[] words) {
            for (int i = 0; i < 4 * words.length; i++) {
                append(words[i >> 2] >>> (8 * (i & 3)));
            }
        }

        void appendFrom(Bytes other, int from, int n) {
            for (int i = 0; i < n; i++) {
                append(other.byteAt(from + i));
            }
        }

        /** How many bytes went, or BAD. */
        int keepFirst(int n) {
            if (n < 0 || n > count) {
                return BAD;
            }
            int went = count - n;
            count = n;
            return went;
        }

        /** What byte i is then, or BAD. */
        int change(int i, int x) {
            if (i < 0 || i >= count || x < 0 || x > 255) {
                return BAD;
            }
            row[i] = (byte) (row[i] ^ x);
            return row[i] & 255;
        }

        void readChain(int from, int[] to) {
            for (int k = 0; k < CHAIN_WORDS && k < to.length; k++) {
                to[k] = wordAt(from + 4 * k);
            }
        }

        private int wordAt(int i) {
            return byteAt(i) | byteAt(i + 1) << 8 | byteAt(i + 2) << 16 | byteAt(i + 3) << 24;
        }
    }

    /** The way from the root down to a chunk: of each parent on it, the chunks of the side not taken. */
    private static final class Way {
        /** A file of 1000000 bytes has 977 chunks, so no way is longer than ten. */
        private static final int MOST_LEVELS = 10;

        private final int[] otherFirst = new int[MOST_LEVELS];
        private final int[] otherChunks = new int[MOST_LEVELS];
        private int levels;

        void lead(int chunks, int c) {
            int first = 0;
            int number = chunks;
            levels = 0;
            while (number > 1 && levels < MOST_LEVELS) {
                int left = leftOf(number);
                if (c < first + left) {
                    otherFirst[levels] = first + left;
                    otherChunks[levels] = number - left;
                    number = left;
                } else {
                    otherFirst[levels] = first;
                    otherChunks[levels] = left;
                    first += left;
                    number -= left;
                }
                levels++;
            }
        }

        private static int leftOf(int number) {
            int left = 1;
            for (int i = 1; i < MOST_LEVELS && 2 * left < number; i++) {
                left *= 2;
            }
            return left;
        }
    }

    /** Takes in the bytes of one tree; its first chunk may have another number than 0, for a part of a file. */
    private static final class Hasher {
        private static final int BLOCK = 64;
        private static final int LAST_BLOCK = CHUNK / BLOCK - 1;
        private static final int FIRST_FLAG = 1;
        private static final int LAST_FLAG = 2;
        /** 40000 bytes close at most 39 chunks, and no number up to 39 has more than five bits set. */
        private static final int STACK_ROOM = 5;

        private final Mix mix = new Mix();
        private final int[] key = new int[CHAIN_WORDS];
        private final int[] stack = new int[STACK_ROOM * CHAIN_WORDS];
        private final int[] chunkChain = new int[CHAIN_WORDS];
        private final int[] block = new int[Mix.BLOCK_WORDS];
        private int mode;
        private int base;
        private int firstChunk;
        private int taken;
        private int closed;
        private int depth;
        private int blocks;
        private int inBlock;

        Hasher() {
            restart(PLAIN, PLAIN_BASE, Mix.START, 0);
        }

        void restart(int newMode, int newBase, int[] newKey, int newFirstChunk) {
            copyWords(newKey, key);
            mode = newMode;
            base = newBase;
            firstChunk = newFirstChunk;
            taken = 0;
            closed = 0;
            depth = 0;
            startChunk();
        }

        void becomeAs(Hasher other) {
            copyWords(other.key, key);
            copyWords(other.stack, stack);
            copyWords(other.chunkChain, chunkChain);
            copyWords(other.block, block);
            mode = other.mode;
            base = other.base;
            firstChunk = other.firstChunk;
            taken = other.taken;
            closed = other.closed;
            depth = other.depth;
            blocks = other.blocks;
            inBlock = other.inBlock;
        }

        void absorb(Bytes from, int first, int n) {
            for (int i = 0; i < n; i++) {
                absorbByte(from.byteAt(first + i));
            }
        }

        /** A full block waits for the byte behind it: only then is it known not to be the last one. */
        void absorbByte(int b) {
            if (inBlock >= BLOCK) {
                if (blocks == LAST_BLOCK) {
                    closeChunk();
                } else {
                    closeBlock();
                }
            }
            block[inBlock >> 2] |= (b & 255) << (8 * (inBlock & 3));
            inBlock++;
            taken++;
        }

        int inChunk() {
            return blocks * BLOCK + inBlock;
        }

        int stackWord(int i, int k) {
            if (i < 0 || i >= depth || k < 0 || k >= CHAIN_WORDS) {
                return 0;
            }
            return stack[i * CHAIN_WORDS + k];
        }

        /** Makes the mix ready for the last one of the tree, and leaves all else as it is. */
        void prepareLast() {
            prepareBlock(LAST_FLAG);
            for (int i = depth - 1; i >= 0; i--) {
                mix.run();
                mix.joinBehind(stack, i * CHAIN_WORDS, key, base);
            }
        }

        private void prepareBlock(int flags) {
            int first = blocks == 0 ? FIRST_FLAG : 0;
            mix.prepare(chunkChain, block, firstChunk + closed, inBlock, base + first + flags);
        }

        private void closeBlock() {
            prepareBlock(0);
            mix.run();
            mix.writeChain(chunkChain, 0);
            blocks++;
            startBlock();
        }

        /** Joins trees of equal size, as a counter carries, so that the stack has as few as may be. */
        private void closeChunk() {
            prepareBlock(LAST_FLAG);
            mix.run();
            closed++;
            for (int trees = closed; depth > 0 && (trees & 1) == 0; trees >>= 1) {
                depth--;
                mix.joinBehind(stack, depth * CHAIN_WORDS, key, base);
                mix.run();
            }
            if (depth < STACK_ROOM) {
                mix.writeChain(stack, depth * CHAIN_WORDS);
                depth++;
            }
            startChunk();
        }

        private void startChunk() {
            copyWords(key, chunkChain);
            blocks = 0;
            startBlock();
        }

        private void startBlock() {
            for (int k = 0; k < block.length; k++) {
                block[k] = 0;
            }
            inBlock = 0;
        }

        private static void copyWords(int[] from, int[] to) {
            for (int k = 0; k < to.length && k < from.length; k++) {
                to[k] = from[k];
            }
        }
    }

    /** One mix: what goes into it, which stays when it is run, and the sixteen words that come of it. */
    private static final class Mix {
        /** The document's eight numbers, in hex because an int literal of that size is no Java in decimal. */
        static final int[] START = {
            0x6A09E667, 0xBB67AE85, 0x3C6EF372, 0xA54FF53A, 0x510E527F, 0x9B05688C, 0x1F83D9AB, 0x5BE0CD19
        };
        static final int BLOCK_WORDS = 16;

        private static final int[] ORDER = {2, 6, 3, 10, 7, 0, 4, 13, 1, 11, 12, 5, 9, 14, 15, 8};
        private static final int ROUNDS = 7;
        private static final int PARENT_LENGTH = 64;
        private static final int PARENT_FLAG = 4;
        private static final int ROOT_FLAG = 8;

        private final int[] chain = new int[CHAIN_WORDS];
        private final int[] block = new int[BLOCK_WORDS];
        private long count;
        private int length;
        private int flags;
        private final int[] v = new int[BLOCK_WORDS];
        private int[] w = new int[BLOCK_WORDS];
        private int[] nextW = new int[BLOCK_WORDS];

        void prepare(int[] newChain, int[] newBlock, long newCount, int newLength, int newFlags) {
            for (int k = 0; k < chain.length && k < newChain.length; k++) {
                chain[k] = newChain[k];
            }
            for (int k = 0; k < block.length && k < newBlock.length; k++) {
                block[k] = newBlock[k];
            }
            count = newCount;
            length = newLength;
            flags = newFlags;
        }

        /** Prepares the parent of a chain on the left and, on the right, the one that came of the last run. */
        void joinBehind(int[] left, int from, int[] key, int base) {
            for (int k = 0; k < CHAIN_WORDS; k++) {
                block[k] = wordOf(left, from + k);
                block[CHAIN_WORDS + k] = v[k];
            }
            prepare(key, block, 0, PARENT_LENGTH, base + PARENT_FLAG);
        }

        /** Prepares the parent of the chain that came of the last run and, on the right, another one. */
        void joinBefore(int[] right, int[] key, int base) {
            for (int k = 0; k < CHAIN_WORDS; k++) {
                block[k] = v[k];
                block[CHAIN_WORDS + k] = wordOf(right, k);
            }
            prepare(key, block, 0, PARENT_LENGTH, base + PARENT_FLAG);
        }

        private static int wordOf(int[] words, int i) {
            return i >= 0 && i < words.length ? words[i] : 0;
        }

        void makeRoot() {
            flags |= ROOT_FLAG;
        }

        void writeChain(int[] to, int from) {
            for (int k = 0; k < CHAIN_WORDS; k++) {
                int i = from + k;
                if (i >= 0 && i < to.length) {
                    to[i] = v[k];
                }
            }
        }

        void writeOutput(Bytes to, int n, long place) {
            to.keepFirst(0);
            makeRoot();
            for (int i = 0; i < n; i++) {
                int inWords = (int) ((place + i) & 63);
                if (i == 0 || inWords == 0) {
                    count = (place + i) >>> 6;
                    run();
                }
                to.append(outputByte(inWords));
            }
        }

        boolean rootBeginsWith(Bytes wanted) {
            makeRoot();
            run();
            for (int i = 0; i < CHAIN_BYTES; i++) {
                if (outputByte(i) != wanted.byteAt(i)) {
                    return false;
                }
            }
            return true;
        }

        private int outputByte(int i) {
            return v[i >> 2] >>> (8 * (i & 3)) & 255;
        }

        void run() {
            fillIn();
            for (int i = 0; i < ROUNDS; i++) {
                turn(0, 4, 8, 12, w[0], w[1]);
                turn(1, 5, 9, 13, w[2], w[3]);
                turn(2, 6, 10, 14, w[4], w[5]);
                turn(3, 7, 11, 15, w[6], w[7]);
                turn(0, 5, 10, 15, w[8], w[9]);
                turn(1, 6, 11, 12, w[10], w[11]);
                turn(2, 7, 8, 13, w[12], w[13]);
                turn(3, 4, 9, 14, w[14], w[15]);
                reorder();
            }
            for (int k = 0; k < CHAIN_WORDS; k++) {
                v[k] ^= v[k + 8];
                v[k + 8] ^= chain[k];
            }
        }

        private void fillIn() {
            for (int k = 0; k < CHAIN_WORDS; k++) {
                v[k] = chain[k];
            }
            for (int k = 0; k < 4; k++) {
                v[8 + k] = START[k];
            }
            v[12] = (int) count;
            v[13] = (int) (count >>> 32);
            v[14] = length;
            v[15] = flags;
            for (int k = 0; k < BLOCK_WORDS; k++) {
                w[k] = block[k];
            }
        }

        private void turn(int a, int b, int c, int d, int x, int y) {
            int va = v[a] + v[b] + x;
            int vd = v[d] ^ va;
            vd = vd >>> 16 | vd << 16;
            int vc = v[c] + vd;
            int vb = v[b] ^ vc;
            vb = vb >>> 12 | vb << 20;
            va += vb + y;
            vd ^= va;
            vd = vd >>> 8 | vd << 24;
            vc += vd;
            vb ^= vc;
            vb = vb >>> 7 | vb << 25;
            v[a] = va;
            v[b] = vb;
            v[c] = vc;
            v[d] = vd;
        }

        private void reorder() {
            for (int k = 0; k < BLOCK_WORDS; k++) {
                nextW[k] = w[ORDER[k]];
            }
            int[] old = w;
            w = nextW;
            nextW = old;
        }
    }
}
