/** Terms: GETTING a slot for a block, and the four policies. */
public final class GettingTest {
    public static void main(String[] args) {
        theLeastFreeOne();
        freeBeforeClean();
        cleanBeforeDirty();
        dirtyBeforePinned();
        noneOfPinnedOnes();
        whatATakenSlotHas();
        usedLongestAgo();
        gotLongestAgo();
        usedLeastOften();
        usesCountFromTheNewBlockOn();
        theHandIsForGoingRoundAlone();
        Check.end();
    }

    private static BarrierCache full(int policy) {
        BarrierCache x = new BarrierCache(3, policy);
        x.read(1);
        x.read(2);
        x.read(3);
        return x;
    }

    private static void theLeastFreeOne() {
        for (int policy = 0; policy < 4; policy++) {
            BarrierCache x = new BarrierCache(4, policy);
            x.read(1);
            Check.due("policy " + policy + ": of all", x.find(1), 0);
            x.read(2);
            x.read(3);
            x.read(4);
            x.drop(4);
            x.drop(2);
            x.drop(3);
            x.read(5);
            Check.due("policy " + policy + ": of 1, 2 and 3", Check.blocks(x), "1 5 -1 -1");
            x.drop(1);
            x.write(6, 6);
            Check.due("policy " + policy + ": of 0, 2 and 3", Check.blocks(x), "6 5 -1 -1");
            Check.due("policy " + policy + ": none is taken from a block", x.total(6), 0);
        }
    }

    private static void freeBeforeClean() {
        for (int policy = 0; policy < 4; policy++) {
            BarrierCache x = full(policy);
            x.drop(3);
            x.read(4);
            Check.due("policy " + policy + ": the last one, as it is free", Check.blocks(x), "1 2 4");
        }
    }

    private static void cleanBeforeDirty() {
        for (int policy = 0; policy < 4; policy++) {
            BarrierCache x = new BarrierCache(3, policy);
            x.write(1, 1);
            x.write(2, 2);
            x.read(3);
            x.read(3);
            x.read(4);
            Check.due("policy " + policy + ": the clean one, though got and used last and most", Check.blocks(x), "1 2 4");
            Check.due("policy " + policy + ": no write", x.total(7), 0);
        }
    }

    private static void dirtyBeforePinned() {
        for (int policy = 0; policy < 4; policy++) {
            BarrierCache x = full(policy);
            x.pin(1, true);
            x.pin(2, true);
            x.write(3, 30);
            x.read(4);
            Check.due("policy " + policy + ": the dirty one", Check.blocks(x), "1 2 4");
            Check.due("policy " + policy + ": its dirt is written out", x.disk(3), 30);
        }
    }

    private static void noneOfPinnedOnes() {
        int[] counts = {1, 32};
        for (int n : counts) {
            for (int policy = 0; policy < 4; policy++) {
                BarrierCache x = new BarrierCache(n, policy);
                for (int i = 0; i < n; i++) {
                    x.write(i, i);
                    x.pin(i, true);
                }
                x.force(0, 7);
                String blocks = Check.blocks(x);
                Check.due(n + " slots, policy " + policy + ": read", x.read(100), 0);
                Check.due(n + " slots, policy " + policy + ": write", x.write(100, 1), 1);
                Check.due(n + " slots, policy " + policy + ": no slot", x.find(100), -1);
                Check.due(n + " slots, policy " + policy + ": all stay", Check.blocks(x), blocks);
                Check.due(n + " slots, policy " + policy + ": none is taken", x.total(6), 0);
            }
        }
    }

    private static void whatATakenSlotHas() {
        for (int policy = 0; policy < 4; policy++) {
            BarrierCache x = new BarrierCache(1, policy);
            x.write(1, 10);
            x.read(1);
            x.pin(1, true);
            x.pin(1, false);
            x.read(2);
            Check.due("policy " + policy + ": clean, used once, marked", Check.slot(x, 0), "2 0 -1 0 1 1");
            x.read(2);
            x.barrier();
            x.write(3, 30);
            Check.due("policy " + policy + ": dirty, used once, marked", Check.slot(x, 0), "3 30 1 0 1 1");
            Check.due("policy " + policy + ": taken", x.total(6), 2);
        }
    }

    private static void usedLongestAgo() {
        BarrierCache x = full(0);
        x.read(1);
        x.force(2, 9);
        x.read(4);
        Check.due("3 was used longest ago", Check.blocks(x), "1 2 4");
        x.write(1, 1);
        x.read(5);
        Check.due("2 was", Check.blocks(x), "1 5 4");
        x.write(4, 1);
        x.write(5, 1);
        x.read(6);
        Check.due("of dirty ones, 1 was", Check.blocks(x), "6 5 4");
    }

    private static void gotLongestAgo() {
        BarrierCache x = full(1);
        x.read(1);
        x.write(1, 1);
        x.flush();
        x.read(4);
        Check.due("1 got its slot longest ago", Check.blocks(x), "4 2 3");
        x.drop(2);
        x.read(2);
        x.read(5);
        Check.due("3 did, 2 got its slot anew", Check.blocks(x), "4 2 5");
        x.write(5, 1);
        x.write(2, 1);
        x.write(4, 1);
        x.read(6);
        Check.due("of dirty ones, 4 did", Check.blocks(x), "6 2 5");
    }

    private static void usedLeastOften() {
        BarrierCache x = full(3);
        x.read(3);
        x.read(1);
        x.read(2);
        x.read(2);
        x.read(4);
        Check.due("1 and 3 twice, 3 longer ago", Check.blocks(x), "1 2 4");
        x.read(5);
        Check.due("4 once", Check.blocks(x), "1 2 5");
        x.force(5, 1);
        x.read(5);
        x.read(6);
        Check.due("1 twice", Check.blocks(x), "6 2 5");
        x.write(6, 1);
        x.write(2, 1);
        x.write(5, 1);
        x.read(7);
        Check.due("of dirty ones, 6 twice", Check.blocks(x), "7 2 5");
    }

    private static void usesCountFromTheNewBlockOn() {
        BarrierCache x = new BarrierCache(2, 3);
        x.read(1);
        x.read(1);
        x.read(1);
        x.read(2);
        x.read(2);
        x.read(2);
        x.read(2);
        x.read(3);
        Check.due("1 thrice", Check.blocks(x), "3 2");
        x.read(4);
        Check.due("3 once, whatever its slot was before", Check.blocks(x), "4 2");
        x.drop(2);
        x.read(2);
        x.read(4);
        x.read(5);
        Check.due("2 once since it got its slot anew", Check.blocks(x), "4 5");
    }

    private static void theHandIsForGoingRoundAlone() {
        int[] policies = {0, 1, 3};
        for (int policy : policies) {
            BarrierCache x = full(policy);
            x.read(4);
            Check.due("policy " + policy + ": one is taken", x.total(6), 1);
            Check.due("policy " + policy + ": the hand stays", x.total(9), 0);
            int marks = x.slot(0, 5) + x.slot(1, 5) + x.slot(2, 5);
            Check.due("policy " + policy + ": no mark is lost", marks, 3);
        }
    }
}
