/** Promise 2: read. */
public final class ReadTest {
    public static void main(String[] args) {
        missThenHit();
        firstAndLastBlock();
        dirtOfAnEarlierEpochStays();
        takesCleanBeforeDirty();
        dirtGoesOutWithWhatLiesBehindEarlierBarriers();
        withoutSlot();
        powerFails();
        powerFailsOnTheFirstOrSecondOfTwoWrites();
        noWriteNoFailure();
        wrongCalls();
        Check.end();
    }

    private static void missThenHit() {
        BarrierCache x = new BarrierCache(2, 0);
        x.force(7, 70);
        Check.due("a miss", x.read(7), 70);
        Check.due("its slot", Check.slot(x, 0), "7 70 -1 0 1 1");
        Check.due("a hit", x.read(7), 70);
        Check.due("its slot, used again", Check.slot(x, 0), "7 70 -1 0 2 1");
        Check.due("reads from the disk", x.total(8), 1);
        Check.due("hits", x.total(4), 1);
        Check.due("misses", x.total(5), 1);
        x.write(255, -5);
        Check.due("a dirty slot", x.read(255), -5);
        Check.due("it stays dirty", Check.slot(x, 1), "255 -5 0 0 2 1");
        Check.due("the disk has not got it", x.disk(255), 0);
    }

    private static void firstAndLastBlock() {
        BarrierCache x = new BarrierCache(1, 0);
        x.force(0, Integer.MAX_VALUE);
        x.force(255, Integer.MIN_VALUE);
        Check.due("block 0", x.read(0), Integer.MAX_VALUE);
        Check.due("its slot", Check.slot(x, 0), "0 2147483647 -1 0 1 1");
        Check.due("block 255", x.read(255), Integer.MIN_VALUE);
        Check.due("its slot", Check.slot(x, 0), "255 -2147483648 -1 0 1 1");
    }

    private static void dirtOfAnEarlierEpochStays() {
        BarrierCache x = new BarrierCache(1, 0);
        x.write(1, 10);
        x.barrier();
        Check.due("read", x.read(1), 10);
        Check.due("it is of its epoch yet", Check.slot(x, 0), "1 10 0 0 2 1");
        Check.due("no write", x.total(7), 0);
    }

    private static void takesCleanBeforeDirty() {
        BarrierCache x = new BarrierCache(3, 0);
        x.write(1, 10);
        x.read(2);
        x.write(3, 30);
        x.read(2);
        x.read(4);
        Check.due("the clean one is taken, though used last", Check.blocks(x), "1 4 3");
        Check.due("no write", x.total(7), 0);
        x.write(4, 40);
        x.read(5);
        Check.due("without a clean one a dirty one is", Check.blocks(x), "5 4 3");
        Check.due("its dirt is written out", Check.writtenFrom(x, 0), "1");
        Check.due("to the disk", x.disk(1), 10);
        Check.due("slots taken", x.total(6), 2);
    }

    private static void dirtGoesOutWithWhatLiesBehindEarlierBarriers() {
        BarrierCache x = new BarrierCache(4, 1);
        x.read(3);
        x.write(9, 1);
        x.write(8, 2);
        x.barrier();
        x.write(7, 3);
        x.write(3, 4);
        x.barrier();
        x.read(1);
        Check.due("earlier epochs, then the slot itself, not its epoch's others", Check.writtenFrom(x, 0), "8 9 3");
        Check.due("the slot is block 1's", Check.slot(x, 0), "1 0 -1 0 1 1");
        Check.due("7 is dirty yet", x.slot(3, 2), 1);
        Check.due("9 is clean in its slot", Check.slot(x, 1), "9 1 -1 0 1 1");
    }

    private static void withoutSlot() {
        BarrierCache x = new BarrierCache(1, 2);
        x.write(1, 10);
        x.pin(1, true);
        x.force(2, 22);
        Check.due("from the disk", x.read(2), 22);
        Check.due("it has no slot", x.find(2), -1);
        Check.due("the pinned one is as it was", Check.slot(x, 0), "1 10 0 1 1 1");
        Check.due("reads from the disk", x.total(8), 1);
        Check.due("misses", x.total(5), 2);
        Check.due("slots taken", x.total(6), 0);
    }

    private static void powerFails() {
        BarrierCache x = new BarrierCache(1, 2);
        x.force(2, 22);
        x.write(1, 10);
        x.cut(1);
        Check.due("the power fails", x.read(2), 0);
        Check.due("it is off", x.total(10), 0);
        Check.due("the slot is free", Check.slot(x, 0), "-1 0 -1 0 0 0");
        Check.due("the write did not happen", x.disk(1), 0);
        Check.due("writes", x.total(7), 1);
        Check.due("nothing was read", x.total(8), 0);
        Check.due("misses", x.total(5), 2);
    }

    private static void powerFailsOnTheFirstOrSecondOfTwoWrites() {
        for (int k = 1; k <= 2; k++) {
            BarrierCache x = new BarrierCache(2, 1);
            x.force(3, 33);
            x.read(1);
            x.write(2, 20);
            x.barrier();
            x.write(1, 10);
            x.cut(k);
            Check.due("cut " + k + ": the power fails", x.read(3), 0);
            Check.due("cut " + k + ": what lies behind the earlier barrier", x.disk(2), k == 1 ? 0 : 20);
            Check.due("cut " + k + ": the later one is not there", x.disk(1), 0);
            Check.due("cut " + k + ": all slots are free", Check.blocks(x), "-1 -1");
            Check.due("cut " + k + ": power", x.total(10), 0);
        }
    }

    private static void noWriteNoFailure() {
        BarrierCache x = new BarrierCache(1, 0);
        x.force(2, 22);
        x.cut(1);
        Check.due("to a free slot", x.read(1), 0);
        Check.due("taking a clean one", x.read(2), 22);
        Check.due("a hit", x.read(2), 22);
        Check.due("the cut is for writes to the disk", x.total(11), 1);
        Check.due("power", x.total(10), 1);
    }

    private static void wrongCalls() {
        BarrierCache x = new BarrierCache(1, 0);
        x.write(4, 4);
        Check.dueBlocksOnly("read", x, (c, block) -> c.read(block));
        Check.duePowerOnly("read", (c, block) -> c.read(block));
    }
}
