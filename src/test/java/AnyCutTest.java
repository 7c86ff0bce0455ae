/**
 * Power that fails between any two writes: a run of calls is made once without a cut, and then again
 * with a cut at each of its writes. What the disk has then is what the writes before the cut left there.
 */
public final class AnyCutTest {
    private static final int SEEDS = 120;
    private static final int CALLS = 60;

    public static void main(String[] args) {
        int most = 0;
        for (int seed = 0; seed < SEEDS; seed++) {
            most = Math.max(most, run(seed));
        }
        Check.due("writes of the longest run", most > 20, true);
        Check.end();
    }

    private static int run(int seed) {
        BarrierCache whole = Run.begin(seed);
        Run run = new Run(seed);
        for (int i = 0; i < CALLS; i++) {
            run.next(whole);
        }
        int writes = whole.total(7);
        int[] written = new int[writes];
        for (int i = 0; i < writes; i++) {
            written[i] = whole.written(i);
        }
        int[] before = new int[Run.BLOCKS];
        for (int k = 1; k <= writes; k++) {
            String what = "seed " + seed + ", cut " + k;
            BarrierCache x = untilTheCut(seed, k);
            lookOff(x, what, k);
            int[] disk = disk(x);
            if (k > 1) {
                lookAtOneWrite(what, before, disk, written[k - 2]);
            }
            Check.due(what + ": the blocks written", Check.writtenFrom(x, 0), first(written, k - 1));
            before = disk;
        }
        if (writes > 0) {
            lookAtOneWrite("seed " + seed + ", no cut", before, disk(whole), written[writes - 1]);
        }
        return writes;
    }

    private static BarrierCache untilTheCut(int seed, int k) {
        BarrierCache x = Run.begin(seed);
        x.cut(k);
        Run run = new Run(seed);
        for (int i = 0; i < CALLS && x.total(10) == 1; i++) {
            run.next(x);
        }
        return x;
    }

    private static void lookOff(BarrierCache x, String what, int k) {
        Check.due(what + ": the power is off", x.total(10), 0);
        Check.due(what + ": writes", x.total(7), k - 1);
        Check.due(what + ": dirty and pinned ones", x.total(1) + x.total(2), 0);
        for (int block = 0; block < Run.BLOCKS; block++) {
            Check.due(what + ": the slot of " + block, x.find(block), BarrierCache.NONE);
        }
    }

    /** One more write changes its own block and no other. */
    private static void lookAtOneWrite(String what, int[] before, int[] after, int written) {
        for (int block = 0; block < Run.BLOCKS; block++) {
            if (block != written) {
                Check.due(what + ": the disk's block " + block, after[block], before[block]);
            }
        }
    }

    private static int[] disk(BarrierCache x) {
        int[] all = new int[Run.BLOCKS];
        for (int block = 0; block < Run.BLOCKS; block++) {
            all[block] = x.disk(block);
        }
        return all;
    }

    private static String first(int[] written, int count) {
        StringBuilder b = new StringBuilder();
        for (int i = 0; i < count; i++) {
            b.append(i == 0 ? "" : " ").append(written[i]);
        }
        return b.toString();
    }
}
