/** Terms: a slot's DIRT is WRITTEN OUT, and never before what was written behind an earlier barrier. */
public final class WrittenOutTest {
    public static void main(String[] args) {
        withoutLowerEpochs();
        itselfBeforeItsEpochsOthers();
        lowerEpochsEachInOrder();
        epochsWithGaps();
        laterEpochsStay();
        pinnedOnesGoOutToo();
        itIsClean();
        everyCutLeavesWholeEpochsBehind();
        Check.end();
    }

    private static void withoutLowerEpochs() {
        BarrierCache x = new BarrierCache(2, 0);
        x.write(1, 10);
        x.write(2, 20);
        Check.due("of the first epoch, alone", x.write(3, 30), 1);
        Check.due("written", Check.writtenFrom(x, 0), "1");
    }

    private static void itselfBeforeItsEpochsOthers() {
        BarrierCache x = new BarrierCache(3, 1);
        x.write(9, 90);
        x.write(1, 10);
        x.write(5, 50);
        x.read(7);
        Check.due("9, though 1 and 5 come first in order", Check.writtenFrom(x, 0), "9");
        Check.due("they are dirty yet", x.total(1), 2);
    }

    /** Epochs 0, 1 and 2, then block 4 of epoch 3, whose dirt a write of epoch 4 sends out. */
    private static String sentOut(int order) {
        BarrierCache x = new BarrierCache(9, 0);
        int[][] epochs = {{11, 10}, {20, 21}, {31, 30}, {5, 4, 3}};
        for (int[] blocks : epochs) {
            for (int block : blocks) {
                x.write(block, block);
                x.rank(block, block == 11 || block == 20 || block == 30 ? 1 : 0);
            }
            x.barrier();
        }
        x.order(order);
        x.write(4, 1);
        Check.due("order " + order + ": dirty ones", x.total(1), 3);
        return Check.writtenFrom(x, 0);
    }

    private static void lowerEpochsEachInOrder() {
        Check.due("order 0", sentOut(0), "10 11 20 21 30 31 4");
        Check.due("order 1", sentOut(1), "11 10 21 20 31 30 4");
        Check.due("order 2", sentOut(2), "11 10 20 21 31 30 4");
        Check.due("order 3", sentOut(3), "10 11 21 20 31 30 4");
    }

    private static void epochsWithGaps() {
        BarrierCache x = new BarrierCache(4, 0);
        x.write(9, 9);
        x.barrier();
        x.barrier();
        x.barrier();
        x.write(5, 5);
        x.barrier();
        x.barrier();
        x.write(1, 1);
        Check.due("flush", x.flush(), 3);
        Check.due("an epoch may have no dirt", Check.writtenFrom(x, 0), "9 5 1");
    }

    private static void laterEpochsStay() {
        BarrierCache x = new BarrierCache(3, 1);
        x.write(9, 90);
        x.barrier();
        x.write(5, 50);
        x.barrier();
        x.write(1, 10);
        Check.due("the oldest epoch's slot is taken", x.write(7, 70), 1);
        Check.due("written", Check.writtenFrom(x, 0), "9");
        Check.due("the later ones keep their epochs", x.slot(1, 2) + " " + x.slot(2, 2), "1 2");
    }

    private static void pinnedOnesGoOutToo() {
        BarrierCache x = new BarrierCache(2, 0);
        x.write(9, 90);
        x.pin(9, true);
        x.barrier();
        x.write(5, 50);
        x.read(1);
        Check.due("the pinned one of the lower epoch first", Check.writtenFrom(x, 0), "9 5");
        Check.due("it stays, clean", Check.slot(x, 0), "9 90 -1 1 1 1");
    }

    private static void itIsClean() {
        BarrierCache x = new BarrierCache(2, 0);
        x.write(9, 90);
        x.barrier();
        x.force(5, 50);
        Check.due("clean, with its value", Check.slot(x, 0), "9 90 -1 0 1 1");
        Check.due("the disk has it", x.disk(9), 90);
        Check.due("it does not go out again", x.flush(), 0);
    }

    /** Whichever write fails, no block of an epoch is on the disk without all of the lower ones. */
    private static void everyCutLeavesWholeEpochsBehind() {
        for (int order = 0; order < 4; order++) {
            for (int k = 1; k <= 9; k++) {
                BarrierCache x = new BarrierCache(9, 0);
                for (int i = 0; i < 9; i++) {
                    x.write((i * 5 + 3) % 9, 1 + i / 3);
                    if (i % 3 == 2) {
                        x.barrier();
                    }
                }
                x.order(order);
                x.cut(k);
                Check.due("order " + order + ", cut " + k, x.flush(), k - 1);
                int[] there = new int[4];
                for (int block = 0; block < 9; block++) {
                    there[x.disk(block)]++;
                }
                for (int epoch = 1; epoch <= 3; epoch++) {
                    int due = Math.max(0, Math.min(3, k - 1 - 3 * (epoch - 1)));
                    Check.due("order " + order + ", cut " + k + ": of epoch " + (epoch - 1), there[epoch], due);
                }
            }
        }
    }
}
