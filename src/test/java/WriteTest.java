/** Promise 3: write. */
public final class WriteTest {
    public static void main(String[] args) {
        staysInItsSlot();
        sameEpoch();
        earlierEpoch();
        takesSlots();
        forcedWithoutSlot();
        powerFails();
        powerFailsWhileForced();
        wrongCalls();
        Check.end();
    }

    private static void staysInItsSlot() {
        BarrierCache x = new BarrierCache(2, 0);
        Check.due("a first write", x.write(255, 9), 0);
        Check.due("its slot", Check.slot(x, 0), "255 9 0 0 1 1");
        Check.due("nothing is read", x.total(8), 0);
        Check.due("nothing is written", x.total(7), 0);
        x.read(0);
        Check.due("on a clean slot", x.write(0, Integer.MIN_VALUE), 0);
        Check.due("it is dirty", Check.slot(x, 1), "0 -2147483648 0 0 2 1");
        Check.due("hits", x.total(4), 1);
        Check.due("misses", x.total(5), 2);
    }

    private static void sameEpoch() {
        BarrierCache x = new BarrierCache(2, 0);
        x.barrier();
        x.write(5, 1);
        Check.due("again in the epoch", x.write(5, 2), 0);
        Check.due("its slot", Check.slot(x, 0), "5 2 1 0 2 1");
        Check.due("nothing is written", x.total(7), 0);
    }

    private static void earlierEpoch() {
        BarrierCache x = new BarrierCache(4, 0);
        x.write(6, 60);
        x.write(4, 40);
        x.barrier();
        x.write(5, 50);
        x.write(3, 30);
        x.barrier();
        Check.due("on dirt of an earlier epoch", x.write(5, 51), 3);
        Check.due("lower epochs first, then it itself", Check.writtenFrom(x, 0), "4 6 5");
        Check.due("the disk has the value from before the barrier", x.disk(5), 50);
        Check.due("its slot", Check.slot(x, 2), "5 51 2 0 2 1");
        Check.due("its epoch's other dirt stays", Check.slot(x, 3), "3 30 1 0 1 1");
        Check.due("those are clean", x.slot(0, 2) + x.slot(1, 2), -2);
    }

    private static void takesSlots() {
        BarrierCache x = new BarrierCache(2, 1);
        x.write(1, 10);
        x.write(2, 20);
        Check.due("takes a dirty one", x.write(3, 30), 1);
        Check.due("got longest ago", Check.blocks(x), "3 2");
        Check.due("written", Check.writtenFrom(x, 0), "1");
        x.barrier();
        x.write(3, 31);
        Check.due("written", Check.writtenFrom(x, 1), "3");
        x.drop(2);
        x.write(4, 40);
        Check.due("a free one before all", Check.blocks(x), "3 4");
        Check.due("slots taken", x.total(6), 1);
    }

    private static void forcedWithoutSlot() {
        BarrierCache x = new BarrierCache(2, 3);
        x.write(1, 10);
        x.barrier();
        x.write(2, 20);
        x.pin(1, true);
        x.pin(2, true);
        Check.due("earlier dirt, then the block", x.write(9, 90), 2);
        Check.due("written", Check.writtenFrom(x, 0), "1 9");
        Check.due("the disk has it", x.disk(9), 90);
        Check.due("no slot has it", x.find(9), -1);
        Check.due("this epoch's dirt stays", x.slot(1, 2), 1);
        Check.due("slots taken", x.total(6), 0);
        Check.due("misses", x.total(5), 3);
        Check.due("on a pinned slot", x.write(2, 21), 0);
        Check.due("it stays pinned", Check.slot(x, 1), "2 21 1 1 2 1");
    }

    private static void powerFails() {
        BarrierCache x = new BarrierCache(3, 0);
        x.write(1, 10);
        x.barrier();
        x.write(2, 20);
        x.barrier();
        x.cut(2);
        Check.due("what it took before the power failed", x.write(2, 21), 1);
        Check.due("power", x.total(10), 0);
        Check.due("disk 1", x.disk(1), 10);
        Check.due("disk 2", x.disk(2), 0);
        Check.due("all slots are free", Check.blocks(x), "-1 -1 -1");
        Check.due("no dirt", x.total(1), 0);
        x.power();
        x.write(1, 1);
        x.write(2, 2);
        x.write(3, 3);
        x.cut(1);
        Check.due("while a slot is taken", x.write(4, 4), 0);
        Check.due("it did not come", Check.blocks(x), "-1 -1 -1");
        Check.due("no dirt", x.total(1), 0);
        Check.due("disk 1", x.disk(1), 10);
    }

    private static void powerFailsWhileForced() {
        BarrierCache x = new BarrierCache(1, 0);
        x.write(1, 10);
        x.pin(1, true);
        x.barrier();
        x.cut(2);
        Check.due("forced, earlier dirt went out", x.write(2, 20), 1);
        Check.due("disk 1", x.disk(1), 10);
        Check.due("disk 2", x.disk(2), 0);
        Check.due("power", x.total(10), 0);
        Check.due("pinned ones", x.total(2), 0);
    }

    private static void wrongCalls() {
        BarrierCache x = new BarrierCache(1, 0);
        x.write(4, 4);
        x.barrier();
        Check.dueBlocksOnly("write", x, (c, block) -> c.write(block, 1));
        Check.duePowerOnly("write", (c, block) -> c.write(block, 1));
    }
}
