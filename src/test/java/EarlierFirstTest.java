import java.util.Arrays;

/**
 * What the class is for, over whole runs and by its face alone: no dirt goes out, and nothing is forced,
 * while dirt of an earlier epoch is still to go out.
 */
public final class EarlierFirstTest {
    private static final int SEEDS = 1000;
    /** With at most 20 looks at each, these keep an object under its 512 calls. */
    private static final int CALLS = 23;

    private static int outOfTwoEpochs;

    public static void main(String[] args) {
        for (int seed = 0; seed < SEEDS; seed++) {
            run(seed);
        }
        Check.due("calls that wrote out dirt of two epochs or more", outOfTwoEpochs > 300, true);
        Check.end();
    }

    private static void run(int seed) {
        BarrierCache x = Run.begin(seed);
        Run run = new Run(seed);
        int[] dirty = dirtyEpochs(x);
        int writes = 0;
        for (int i = 0; i < CALLS; i++) {
            String call = run.next(x);
            String what = "seed " + seed + ", call " + i + ", " + call;
            int writesNow = x.total(7);
            lookAtWrites(x, what, dirty, writes, writesNow);
            int[] dirtyNow = dirtyEpochs(x);
            if (!call.startsWith("drop")) {
                lookAtWhatStays(what, dirty, dirtyNow);
            }
            dirty = dirtyNow;
            writes = writesNow;
        }
    }

    /** The epoch of each block's dirt, or NONE. */
    private static int[] dirtyEpochs(BarrierCache x) {
        int[] epochs = new int[Run.BLOCKS];
        Arrays.fill(epochs, BarrierCache.NONE);
        int slots = x.total(0);
        for (int slot = 0; slot < slots; slot++) {
            int epoch = x.slot(slot, 2);
            if (epoch != BarrierCache.NONE) {
                epochs[x.slot(slot, 0)] = epoch;
            }
        }
        return epochs;
    }

    /** Each block written by the call takes its old dirt along; what is written without any is new. */
    private static void lookAtWrites(BarrierCache x, String call, int[] dirty, int from, int to) {
        int now = x.total(3);
        int epochs = 0;
        int latest = BarrierCache.NONE;
        for (int i = from; i < to; i++) {
            int block = x.written(i);
            int epoch = dirty[block] != BarrierCache.NONE ? dirty[block] : now;
            dirty[block] = BarrierCache.NONE;
            epochs += epoch != latest ? 1 : 0;
            Check.due(call + ": write " + i + " is of no earlier epoch than the one before", epoch >= latest, true);
            Check.due(call + ": earlier dirt behind write " + i, earlierDirt(dirty, epoch), 0);
            latest = epoch;
        }
        outOfTwoEpochs += epochs > 1 ? 1 : 0;
    }

    /** Dirt that did not go out is still there, of its epoch: nothing written later took its place. */
    private static void lookAtWhatStays(String call, int[] left, int[] dirtyNow) {
        for (int block = 0; block < left.length; block++) {
            if (left[block] != BarrierCache.NONE) {
                Check.due(call + ": the epoch of the dirt of " + block, dirtyNow[block], left[block]);
            }
        }
    }

    private static int earlierDirt(int[] dirty, int epoch) {
        int count = 0;
        for (int other : dirty) {
            count += other != BarrierCache.NONE && other < epoch ? 1 : 0;
        }
        return count;
    }
}
