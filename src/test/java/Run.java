import java.util.Random;

/**
 * Calls from a fixed seed on few blocks, for tests that look at whole runs: reads, writes, forced
 * writes, flushes, barriers, pins and drops. The same seed always makes the same calls.
 */
final class Run {
    static final int BLOCKS = 9;

    private final Random random;

    Run(int seed) {
        random = new Random(seed);
    }

    /** A policy, an order, ranks and limits by the seed; 10 to 12 of the object's 512 calls. */
    static BarrierCache begin(int seed) {
        BarrierCache x = new BarrierCache(1 + seed % 5, seed % 4);
        x.order(seed / 4 % 4);
        for (int block = 0; block < BLOCKS; block++) {
            x.rank(block, (block * 5 + seed) % 4 - 2);
        }
        if (seed % 3 == 0) {
            x.limits(seed / 3 % 4, seed / 3 % 2 == 0 ? 0 : 1);
        }
        return x;
    }

    /** The next call, told as a text. */
    String next(BarrierCache x) {
        int kind = random.nextInt(20);
        int block = random.nextInt(BLOCKS);
        int value = 1 + random.nextInt(1000);
        if (kind < 3) {
            return "read " + block + ": " + x.read(block);
        }
        if (kind < 13) {
            return "write " + block + ": " + x.write(block, value);
        }
        switch (kind) {
            case 13: return "force " + block + ": " + x.force(block, value);
            case 14: return "flush: " + (value % 4 == 0 ? x.flush() : 0);
            case 15: return "drop " + block + ": " + (value % 2 == 0 && x.drop(block));
            case 16: return "pin " + block + ": " + x.pin(block, value % 3 == 0);
            default: return "barrier: " + x.barrier();
        }
    }
}
