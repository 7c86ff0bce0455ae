/** Promise 3: write. */
public final class WriteTest {
    public static void main(String[] args) {
        staysInItsSlot();
        firstAndLastBlock();
        theSameValueIsDirtToo();
        sameEpoch();
        earlierEpoch();
        oneEpochEarlier();
        cleanBehindABarrier();
        takesSlots();
        takesASlotOfALaterEpoch();
        forcedWithoutSlot();
        powerFails();
        powerFailsWhileASlotIsTaken();
        powerFailsWhileForced();
        wrongCalls();
        Check.end();
    }

    private static void staysInItsSlot() {
        BarrierCache x = new BarrierCache(2, 0);
        Check.due("a first write", x.write(255, 9), 0);
        Check.due("its slot", Check.slot(x, 0), "255 9 0 0 1 1");
        Check.due("nothing is read", x.total(8), 0);
        Check.due("nothing is written", x.total(7), 0);
        x.read(0);
        Check.due("on a clean slot", x.write(0, Integer.MIN_VALUE), 0);
        Check.due("it is dirty", Check.slot(x, 1), "0 -2147483648 0 0 2 1");
        Check.due("hits", x.total(4), 1);
        Check.due("misses", x.total(5), 2);
    }

    private static void firstAndLastBlock() {
        BarrierCache x = new BarrierCache(2, 0);
        Check.due("block 0", x.write(0, Integer.MAX_VALUE), 0);
        Check.due("block 255", x.write(255, Integer.MIN_VALUE), 0);
        Check.due("slots", Check.slot(x, 0) + ", " + Check.slot(x, 1), "0 2147483647 0 0 1 1, 255 -2147483648 0 0 1 1");
        Check.due("flush", x.flush(), 2);
        Check.due("disk 0", x.disk(0), Integer.MAX_VALUE);
        Check.due("disk 255", x.disk(255), Integer.MIN_VALUE);
    }

    private static void theSameValueIsDirtToo() {
        BarrierCache x = new BarrierCache(2, 0);
        x.write(1, 0);
        Check.due("0 over the disk's 0", Check.slot(x, 0), "1 0 0 0 1 1");
        x.flush();
        x.write(1, 0);
        Check.due("0 over the slot's 0", Check.slot(x, 0), "1 0 0 0 2 1");
        Check.due("flush", x.flush(), 1);
    }

    private static void sameEpoch() {
        BarrierCache x = new BarrierCache(2, 0);
        x.barrier();
        x.write(5, 1);
        Check.due("again in the epoch", x.write(5, 2), 0);
        Check.due("its slot", Check.slot(x, 0), "5 2 1 0 2 1");
        Check.due("nothing is written", x.total(7), 0);
    }

    private static void earlierEpoch() {
        BarrierCache x = new BarrierCache(4, 0);
        x.write(6, 60);
        x.write(4, 40);
        x.barrier();
        x.write(5, 50);
        x.write(3, 30);
        x.barrier();
        Check.due("on dirt of an earlier epoch", x.write(5, 51), 3);
        Check.due("lower epochs first, then it itself", Check.writtenFrom(x, 0), "4 6 5");
        Check.due("the disk has the value from before the barrier", x.disk(5), 50);
        Check.due("its slot", Check.slot(x, 2), "5 51 2 0 2 1");
        Check.due("its epoch's other dirt stays", Check.slot(x, 3), "3 30 1 0 1 1");
        Check.due("those are clean", x.slot(0, 2) + x.slot(1, 2), -2);
    }

    private static void oneEpochEarlier() {
        BarrierCache x = new BarrierCache(1, 0);
        x.write(5, 50);
        x.barrier();
        Check.due("its dirt is written out first", x.write(5, 51), 1);
        Check.due("disk", x.disk(5), 50);
        Check.due("its slot", Check.slot(x, 0), "5 51 1 0 2 1");
        Check.due("again in the epoch", x.write(5, 52), 0);
    }

    private static void cleanBehindABarrier() {
        BarrierCache x = new BarrierCache(2, 0);
        x.write(4, 40);
        x.write(5, 50);
        x.force(5, 51);
        x.barrier();
        Check.due("a clean slot has no dirt to write out, and no earlier dirt goes", x.write(5, 52), 0);
        Check.due("their epochs", x.slot(0, 2) + " " + x.slot(1, 2), "0 1");
        Check.due("a new block's neither", new BarrierCache(1, 0).write(5, 1), 0);
    }

    private static void takesSlots() {
        BarrierCache x = new BarrierCache(2, 1);
        x.write(1, 10);
        x.write(2, 20);
        Check.due("takes a dirty one", x.write(3, 30), 1);
        Check.due("got longest ago", Check.blocks(x), "3 2");
        Check.due("written", Check.writtenFrom(x, 0), "1");
        x.barrier();
        x.write(3, 31);
        Check.due("written", Check.writtenFrom(x, 1), "3");
        x.drop(2);
        x.write(4, 40);
        Check.due("a free one before all", Check.blocks(x), "3 4");
        Check.due("slots taken", x.total(6), 1);
    }

    private static void takesASlotOfALaterEpoch() {
        BarrierCache x = new BarrierCache(3, 0);
        x.write(1, 10);
        x.barrier();
        x.write(2, 20);
        x.write(3, 30);
        x.read(1);
        Check.due("2 was used longest ago; 1 goes out before it", x.write(4, 40), 2);
        Check.due("written", Check.writtenFrom(x, 0), "1 2");
        Check.due("slots", Check.blocks(x), "1 4 3");
        Check.due("dirty ones", x.total(1), 2);
    }

    private static void forcedWithoutSlot() {
        BarrierCache x = new BarrierCache(2, 3);
        x.write(1, 10);
        x.barrier();
        x.write(2, 20);
        x.pin(1, true);
        x.pin(2, true);
        Check.due("earlier dirt, then the block", x.write(9, 90), 2);
        Check.due("written", Check.writtenFrom(x, 0), "1 9");
        Check.due("the disk has it", x.disk(9), 90);
        Check.due("no slot has it", x.find(9), -1);
        Check.due("this epoch's dirt stays", x.slot(1, 2), 1);
        Check.due("slots taken", x.total(6), 0);
        Check.due("misses", x.total(5), 3);
        Check.due("on a pinned slot", x.write(2, 21), 0);
        Check.due("it stays pinned", Check.slot(x, 1), "2 21 1 1 2 1");
    }

    private static void powerFails() {
        BarrierCache x = new BarrierCache(3, 0);
        x.write(1, 10);
        x.barrier();
        x.write(2, 20);
        x.barrier();
        x.cut(2);
        Check.due("what it took before the power failed", x.write(2, 21), 1);
        Check.due("power", x.total(10), 0);
        Check.due("disk 1", x.disk(1), 10);
        Check.due("disk 2", x.disk(2), 0);
        Check.due("all slots are free", Check.blocks(x), "-1 -1 -1");
        Check.due("no dirt", x.total(1), 0);
    }

    private static void powerFailsWhileASlotIsTaken() {
        BarrierCache x = new BarrierCache(3, 0);
        x.write(1, 1);
        x.write(2, 2);
        x.write(3, 3);
        x.cut(1);
        Check.due("while a slot is taken", x.write(4, 4), 0);
        Check.due("it did not come", Check.blocks(x), "-1 -1 -1");
        Check.due("nor was it forced", x.disk(4), 0);
        Check.due("no dirt", x.total(1), 0);
        Check.due("disk 1", x.disk(1), 0);
        Check.due("writes", x.total(7), 0);
    }

    private static void powerFailsWhileForced() {
        for (int k = 1; k <= 3; k++) {
            BarrierCache x = new BarrierCache(1, 0);
            x.write(1, 10);
            x.pin(1, true);
            x.barrier();
            x.cut(k);
            Check.due("cut " + k + ": earlier dirt, then it itself", x.write(2, 20), k - 1);
            Check.due("cut " + k + ": disk 1", x.disk(1), k > 1 ? 10 : 0);
            Check.due("cut " + k + ": disk 2", x.disk(2), k > 2 ? 20 : 0);
            Check.due("cut " + k + ": power", x.total(10), k > 2 ? 1 : 0);
            Check.due("cut " + k + ": pinned ones", x.total(2), k > 2 ? 1 : 0);
        }
    }

    private static void wrongCalls() {
        BarrierCache x = new BarrierCache(1, 0);
        x.write(4, 4);
        x.barrier();
        Check.dueBlocksOnly("write", x, (c, block) -> c.write(block, 1));
        Check.duePowerOnly("write", (c, block) -> c.write(block, 1));
    }
}
