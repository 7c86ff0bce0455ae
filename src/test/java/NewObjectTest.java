/** Promise 1: a new object. */
public final class NewObjectTest {
    public static void main(String[] args) {
        slotCounts();
        policies();
        firstState();
        Check.end();
    }

    private static void slotCounts() {
        int[] kept = {1, 2, 8, 31, 32};
        for (int n : kept) {
            Check.due("slots of " + n, new BarrierCache(n, 0).total(0), n);
        }
        int[] others = {0, -1, 33, Integer.MIN_VALUE, Integer.MAX_VALUE};
        for (int n : others) {
            Check.due("slots of " + n, new BarrierCache(n, 0).total(0), 8);
        }
    }

    /** Three slots, used so that each policy but 2 takes another one. */
    private static int takenBy(int policy) {
        BarrierCache x = new BarrierCache(3, policy);
        x.read(10);
        x.read(11);
        x.read(12);
        x.read(12);
        x.read(11);
        x.read(10);
        x.read(10);
        x.read(11);
        x.read(11);
        x.read(12);
        x.read(10);
        x.read(20);
        return x.find(20);
    }

    private static void policies() {
        Check.due("policy 0", takenBy(0), 1);
        Check.due("policy 1", takenBy(1), 0);
        Check.due("policy 2", takenBy(2), 0);
        Check.due("policy 3", takenBy(3), 2);
        int[] others = {-1, 4, Integer.MIN_VALUE, Integer.MAX_VALUE};
        for (int policy : others) {
            Check.due("policy " + policy, takenBy(policy), 1);
        }
    }

    private static void firstState() {
        BarrierCache x = new BarrierCache(2, 2);
        int[] totals = {2, 0, 0, 0, 0, 0, 0, 0, 0, 0, 1, 0};
        for (int what = 0; what < totals.length; what++) {
            Check.due("total " + what, x.total(what), totals[what]);
        }
        for (int block = 0; block < 256; block += 5) {
            Check.due("disk " + block, x.disk(block), 0);
            Check.due("find " + block, x.find(block), BarrierCache.NONE);
            Check.due("rank " + block, x.rank(block, 1), 0);
        }
        Check.due("slot 0", Check.slot(x, 0), "-1 0 -1 0 0 0");
        Check.due("slot 1", Check.slot(x, 1), "-1 0 -1 0 0 0");
        Check.due("written 0", x.written(0), BarrierCache.NONE);
        Check.due("order", x.order(0), 0);
        Check.due("NONE", BarrierCache.NONE, -1);
    }
}
