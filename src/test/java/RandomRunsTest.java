/** Runs of up to 512 calls, right ones and wrong ones; each answer is held against PlainModel's. */
public final class RandomRunsTest {
    private static final Due due = new Due("RandomRunsTest");
    private static final int RUNS = 200;
    private static final int MOST_CALLS = 512;
    /** One turn makes at most three calls, and a register is read with 201. */
    private static final int ROOM_FOR_A_TURN = 3;
    private static final int ROOM_FOR_A_REGISTER = 201;
    private static final int[] FAR = {-1, Integer.MIN_VALUE, Integer.MAX_VALUE, -5000, 5001, 1 << 20};
    private static long state;
    private static int calls;

    public static void main(String[] args) {
        for (int run = 1; run <= RUNS; run++) {
            state = run * 7919L;
            TreeHashes x = new TreeHashes();
            PlainModel m = new PlainModel();
            boolean reads = run % 2 == 0;
            int end = MOST_CALLS - ROOM_FOR_A_TURN - (reads ? ROOM_FOR_A_REGISTER : 0);
            for (calls = 0; calls <= end; ) {
                if (below(100) < 50) {
                    hashing(run, x, m);
                } else {
                    proving(run, x, m);
                }
            }
            if (reads) {
                wholeRegister(run, x, m, run / 2 % 8);
            }
        }
        due.end();
    }

    /** Written out here so that every machine makes the same runs. */
    private static int below(int n) {
        state = state * 6364136223846793005L + 1442695040888963407L;
        return (int) ((state >>> 33) % n);
    }

    private static int any() {
        return below(1 << 30) * 4 + below(4);
    }

    /** A number from least to most, at times one beside them or far away. */
    private static int near(int least, int most) {
        int kind = below(40);
        if (kind == 0) {
            return FAR[below(FAR.length)];
        }
        if (kind == 1) {
            return most + 1;
        }
        if (kind == 2) {
            return below(2) == 0 ? least : most;
        }
        return least + below(most - least + 1);
    }

    private static long place() {
        switch (below(6)) {
            case 0:
                return below(200);
            case 1:
                return (1L << 62) - below(3) + 1;
            case 2:
                return (1L << 38) - below(300);
            case 3:
                return (long) any() << 20;
            default:
                return 0;
        }
    }

    private static void hashing(int run, TreeHashes x, PlainModel m) {
        int h = near(0, 3);
        int r = near(0, 7);
        int i = any();
        int j = below(3) == 0 ? any() : below(4);
        switch (below(12)) {
            case 0:
            case 1: {
                int n = near(1, 8);
                long w = (long) any() << 32 ^ any();
                is(run, "add", x.add(r, n, w), m.add(r, n, w), r, n);
                break;
            }
            case 2:
                is(run, "clear", x.clear(r), m.clear(r), r, 0);
                break;
            case 3: {
                int mode = below(3) == 0 ? near(0, 2) : 1;
                is(run, "begin", x.begin(h, mode, r), m.begin(h, mode, r), h, mode);
                break;
            }
            case 4:
                is(run, "take", x.take(h, r), m.take(h, r), h, r);
                break;
            case 5:
            case 6: {
                int n = below(3) == 0 ? below(130) : near(0, 5000);
                is(run, "fill", x.fill(h, n, i, j), m.fill(h, n, i, j), h, n);
                break;
            }
            case 7: {
                int n = below(2) == 0 ? 32 : near(0, 200);
                long place = place();
                is(run, "output", x.output(h, r, n, place), m.output(h, r, n, place), h, n);
                break;
            }
            case 8: {
                int to = near(0, 3);
                is(run, "copy", x.copy(h, to), m.copy(h, to), h, to);
                break;
            }
            case 9: {
                int what = near(0, 4);
                is(run, "told", x.told(h, what), m.told(h, what), h, what);
                break;
            }
            case 10: {
                int c = near(0, 4);
                int k = near(0, 7);
                is(run, "chain", x.chain(h, c, k), m.chain(h, c, k), c, k);
                break;
            }
            default: {
                int at = near(0, 199);
                is(run, "at", x.at(r, at), m.at(r, at), r, at);
                is(run, "size", x.size(r), m.size(r), r, 0);
            }
        }
    }

    private static void proving(int run, TreeHashes x, PlainModel m) {
        int r = near(0, 7);
        int length = m.fileLength();
        int c = near(0, PlainTree.chunks(length) - 1);
        int flip = near(0, 255);
        switch (below(12)) {
            case 0:
            case 1: {
                int n = below(2) == 0 ? near(1, 1100) : near(1, 5000);
                int from = any();
                is(run, "grow", x.grow(n, from, 3), m.grow(n, from, 3), n, from);
                break;
            }
            case 2: {
                int i = near(0, length);
                is(run, "spoil", x.spoil(i, flip), m.spoil(i, flip), i, flip);
                break;
            }
            case 3: {
                int n = below(3) == 0 ? near(0, length) : Math.max(0, length - below(1500));
                is(run, "shorten", x.shorten(n), m.shorten(n), n, 0);
                break;
            }
            case 4:
                is(run, "root", x.root(r), m.root(r), r, 0);
                break;
            case 5:
            case 6:
                is(run, "root", x.root(r), m.root(r), r, 0);
                is(run, "prove", x.prove(c), m.prove(c), c, 0);
                is(run, "check", x.check(r, length, c), m.check(r, length, c), r, c);
                break;
            case 7: {
                int i = near(0, m.proofLength());
                is(run, "proof", x.proof(i), m.proof(i), i, 0);
                break;
            }
            case 8: {
                int i = near(0, m.proofLength());
                is(run, "forge", x.forge(i, flip), m.forge(i, flip), i, flip);
                break;
            }
            case 9: {
                int n = below(2) == 0 ? m.proofLength() - 1 : near(0, m.proofLength());
                is(run, "cut", x.cut(n), m.cut(n), n, 0);
                break;
            }
            case 10: {
                int other = below(2) == 0 ? length : near(0, 1000000);
                int d = near(0, PlainTree.chunks(Math.max(0, Math.min(1000000, other))) - 1);
                is(run, "check", x.check(r, other, d), m.check(r, other, d), other, d);
                break;
            }
            default:
                is(run, "check", x.check(r, length, c), m.check(r, length, c), length, c);
        }
    }

    private static void is(int run, String call, int got, int want, int a, int b) {
        calls++;
        due.is("run " + run + ": " + call + " with " + a + ", " + b, got, want);
    }

    private static void wholeRegister(int run, TreeHashes x, PlainModel m, int r) {
        is(run, "size at last", x.size(r), m.size(r), r, 0);
        for (int i = 0; i < 200; i++) {
            is(run, "at, at last", x.at(r, i), m.at(r, i), r, i);
        }
    }
}
