/** Promise 1: a new object. */
public final class NewObjectTest {
    public static void main(String[] args) {
        slotCounts();
        slotNumbers();
        policies();
        oddInBoth();
        firstState();
        allBlocksAtFirst();
        Check.end();
    }

    private static void slotCounts() {
        for (int n = 1; n <= 32; n++) {
            Check.due("slots of " + n, new BarrierCache(n, 0).total(0), n);
        }
        int[] others = {0, -1, 33, Integer.MIN_VALUE, Integer.MAX_VALUE};
        for (int n : others) {
            Check.due("slots of " + n, new BarrierCache(n, 0).total(0), 8);
        }
    }

    /** Slots are 0 .. n - 1, and n is 8 for any other number. */
    private static void slotNumbers() {
        int[][] pairs = {{1, 1}, {2, 2}, {31, 31}, {32, 32}, {0, 8}, {33, 8}};
        for (int[] pair : pairs) {
            BarrierCache x = new BarrierCache(pair[0], 0);
            int n = pair[1];
            Check.due("the first slot of " + pair[0], x.slot(0, 0), BarrierCache.NONE);
            Check.due("the last slot of " + pair[0], x.slot(n - 1, 0), BarrierCache.NONE);
            Check.dueBadArgument("the slot behind the last of " + pair[0], () -> x.slot(n, 0));
            for (int i = 0; i < n; i++) {
                x.read(i);
            }
            Check.due("all have a slot", x.find(n - 1), n - 1);
            Check.due("none was taken", x.total(6), 0);
            x.read(n);
            Check.due("then one is", x.total(6), 1);
        }
    }

    /** Three slots, used so that each policy but 2 takes another one. */
    private static int takenBy(int policy) {
        BarrierCache x = new BarrierCache(3, policy);
        x.read(10);
        x.read(11);
        x.read(12);
        x.read(12);
        x.read(11);
        x.read(10);
        x.read(10);
        x.read(11);
        x.read(11);
        x.read(12);
        x.read(10);
        x.read(20);
        return x.find(20);
    }

    private static void policies() {
        Check.due("policy 0", takenBy(0), 1);
        Check.due("policy 1", takenBy(1), 0);
        Check.due("policy 2", takenBy(2), 0);
        Check.due("policy 3", takenBy(3), 2);
        int[] others = {-1, 4, Integer.MIN_VALUE, Integer.MAX_VALUE};
        for (int policy : others) {
            Check.due("policy " + policy, takenBy(policy), 1);
        }
    }

    private static void oddInBoth() {
        BarrierCache x = new BarrierCache(0, 4);
        Check.due("slots", x.total(0), 8);
        for (int i = 0; i < 8; i++) {
            x.read(i);
        }
        x.read(0);
        x.read(100);
        Check.due("the one used longest ago is taken", x.find(100), 1);
    }

    private static void firstState() {
        BarrierCache x = new BarrierCache(2, 2);
        int[] totals = {2, 0, 0, 0, 0, 0, 0, 0, 0, 0, 1, 0};
        for (int what = 0; what < totals.length; what++) {
            Check.due("total " + what, x.total(what), totals[what]);
        }
        Check.due("slot 0", Check.slot(x, 0), "-1 0 -1 0 0 0");
        Check.due("slot 1", Check.slot(x, 1), "-1 0 -1 0 0 0");
        Check.due("written 0", x.written(0), BarrierCache.NONE);
        Check.due("order", x.order(0), 0);
        Check.due("NONE", BarrierCache.NONE, -1);
    }

    private static void allBlocksAtFirst() {
        BarrierCache x = new BarrierCache(1, 0);
        BarrierCache y = new BarrierCache(1, 0);
        for (int block = 0; block < 256; block++) {
            Check.due("disk " + block, x.disk(block), 0);
            Check.due("find " + block, x.find(block), BarrierCache.NONE);
            Check.due("rank " + block, y.rank(block, 1), 0);
            Check.due("read " + block, y.read(block), 0);
        }
    }
}
