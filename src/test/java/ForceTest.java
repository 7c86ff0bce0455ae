/** Promise 4: force. */
public final class ForceTest {
    public static void main(String[] args) {
        withoutSlot();
        firstAndLastBlock();
        withCleanSlot();
        withDirtySlotOfThisEpoch();
        withDirtySlotOfAnEarlierEpoch();
        earlierEpochsFirst();
        withoutSlotBehindABarrier();
        powerFails();
        limitsDoNotMatter();
        wrongCalls();
        Check.end();
    }

    private static void withoutSlot() {
        BarrierCache x = new BarrierCache(2, 0);
        Check.due("force", x.force(255, 3), 1);
        Check.due("disk", x.disk(255), 3);
        Check.due("it gets no slot", x.find(255), -1);
        Check.due("hits and misses", x.total(4) + x.total(5), 0);
    }

    private static void firstAndLastBlock() {
        BarrierCache x = new BarrierCache(1, 0);
        Check.due("block 0", x.force(0, Integer.MIN_VALUE), 1);
        Check.due("block 255", x.force(255, Integer.MAX_VALUE), 1);
        Check.due("disk 0", x.disk(0), Integer.MIN_VALUE);
        Check.due("disk 255", x.disk(255), Integer.MAX_VALUE);
        Check.due("what is there already", x.force(255, Integer.MAX_VALUE), 1);
        Check.due("written", Check.writtenFrom(x, 0), "0 255 255");
    }

    private static void withCleanSlot() {
        BarrierCache x = new BarrierCache(2, 0);
        x.read(1);
        x.read(2);
        Check.due("force", x.force(1, 11), 1);
        Check.due("the slot has it, clean and used", Check.slot(x, 0), "1 11 -1 0 2 1");
        x.read(3);
        Check.due("1 was used last", Check.blocks(x), "1 3");
        Check.due("hits", x.total(4), 0);
    }

    private static void withDirtySlotOfThisEpoch() {
        BarrierCache x = new BarrierCache(2, 0);
        x.write(1, 10);
        x.pin(1, true);
        Check.due("one write", x.force(1, 11), 1);
        Check.due("clean, pinned yet", Check.slot(x, 0), "1 11 -1 1 2 1");
        Check.due("disk", x.disk(1), 11);
        Check.due("flush", x.flush(), 0);
    }

    private static void withDirtySlotOfAnEarlierEpoch() {
        BarrierCache x = new BarrierCache(2, 0);
        x.write(1, 10);
        x.barrier();
        Check.due("its own dirt, then the value", x.force(1, 11), 2);
        Check.due("written", Check.writtenFrom(x, 0), "1 1");
        Check.due("clean", Check.slot(x, 0), "1 11 -1 0 2 1");
        Check.due("disk", x.disk(1), 11);
    }

    private static void earlierEpochsFirst() {
        BarrierCache x = new BarrierCache(6, 0);
        x.write(4, 1);
        x.write(3, 1);
        x.barrier();
        x.write(2, 1);
        x.write(1, 1);
        x.barrier();
        x.write(5, 1);
        x.write(6, 1);
        Check.due("force", x.force(5, 2), 5);
        Check.due("written", Check.writtenFrom(x, 0), "3 4 1 2 5");
        Check.due("6 stays dirty", x.total(1), 1);
        Check.due("6 stays dirty", x.slot(x.find(6), 2), 2);
    }

    private static void withoutSlotBehindABarrier() {
        BarrierCache x = new BarrierCache(2, 0);
        x.write(1, 10);
        x.write(2, 20);
        Check.due("this epoch's dirt stays", x.force(3, 30), 1);
        x.barrier();
        Check.due("an earlier one's goes first", x.force(3, 31), 3);
        Check.due("written", Check.writtenFrom(x, 0), "3 1 2 3");
        Check.due("then there is none", x.force(3, 32), 1);
        Check.due("slots", Check.blocks(x), "1 2");
    }

    private static void powerFails() {
        BarrierCache x = new BarrierCache(3, 0);
        x.write(1, 10);
        x.barrier();
        x.write(2, 20);
        x.cut(2);
        Check.due("force", x.force(2, 21), 1);
        Check.due("disk 1", x.disk(1), 10);
        Check.due("disk 2", x.disk(2), 0);
        Check.due("slots", Check.blocks(x), "-1 -1 -1");
        Check.due("power", x.total(10), 0);
        x.power();
        x.write(1, 11);
        x.barrier();
        x.cut(1);
        Check.due("at the first", x.force(2, 21), 0);
        Check.due("disk 2", x.disk(2), 0);
        Check.due("disk 1", x.disk(1), 10);
    }

    private static void limitsDoNotMatter() {
        BarrierCache x = new BarrierCache(4, 0);
        x.write(1, 1);
        x.write(2, 2);
        x.limits(0, 0);
        Check.due("limits are for what is behind a write", x.force(3, 3), 1);
        Check.due("dirty ones", x.total(1), 2);
    }

    private static void wrongCalls() {
        BarrierCache x = new BarrierCache(1, 0);
        x.write(4, 4);
        x.barrier();
        Check.dueBlocksOnly("force", x, (c, block) -> c.force(block, 1));
        Check.duePowerOnly("force", (c, block) -> c.force(block, 1));
    }
}
