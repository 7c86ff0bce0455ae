/** Promise 8: drop. */
public final class DropTest {
    public static void main(String[] args) {
        ordinary();
        firstAndLastBlock();
        lostDirt();
        aFreeSlot();
        wrongCalls();
        Check.end();
    }

    private static void ordinary() {
        BarrierCache x = new BarrierCache(3, 0);
        Check.due("without a slot", x.drop(1), false);
        x.write(1, 10);
        x.read(2);
        x.write(3, 30);
        x.pin(3, true);
        Check.due("dirty", x.drop(1), true);
        Check.due("free", Check.slot(x, 0), "-1 0 -1 0 0 0");
        Check.due("again", x.drop(1), false);
        Check.due("clean", x.drop(2), false);
        Check.due("free", Check.blocks(x), "-1 -1 3");
        Check.due("pinned", x.drop(3), true);
        Check.due("free", Check.slot(x, 2), "-1 0 -1 0 0 0");
        Check.due("pinned ones", x.total(2), 0);
        Check.due("dirty ones", x.total(1), 0);
        Check.due("slots taken", x.total(6), 0);
    }

    private static void firstAndLastBlock() {
        BarrierCache x = new BarrierCache(2, 0);
        x.write(0, 1);
        x.write(255, 1);
        Check.due("block 255", x.drop(255), true);
        Check.due("slots", Check.blocks(x), "0 -1");
        Check.due("block 0", x.drop(0), true);
        Check.due("slots", Check.blocks(x), "-1 -1");
    }

    private static void lostDirt() {
        BarrierCache x = new BarrierCache(3, 0);
        x.force(1, 1);
        x.write(1, 10);
        x.write(2, 20);
        x.barrier();
        Check.due("dirt of an earlier epoch", x.drop(1), true);
        Check.due("no write", x.total(7), 1);
        Check.due("no later dirt takes it out", x.force(9, 9), 2);
        Check.due("written", Check.writtenFrom(x, 1), "2 9");
        Check.due("flush", x.flush(), 0);
        Check.due("what the disk has is read", x.read(1), 1);
        x.write(1, 11);
        x.flush();
        Check.due("cleaned before", x.drop(1), false);
        Check.due("so nothing was lost", x.disk(1), 11);
    }

    private static void aFreeSlot() {
        BarrierCache x = new BarrierCache(2, 2);
        x.read(1);
        x.read(2);
        x.read(3);
        Check.due("the hand", x.total(9), 1);
        x.drop(2);
        Check.due("stays", x.total(9), 1);
        x.write(4, 40);
        Check.due("it is the next that is got", Check.blocks(x), "3 4");
        Check.due("used once", Check.slot(x, 1), "4 40 0 0 1 1");
    }

    private static void wrongCalls() {
        BarrierCache x = new BarrierCache(1, 0);
        x.write(4, 4);
        Check.dueBlocksOnly("drop", x, (c, block) -> c.drop(block));
        Check.duePowerOnly("drop", (c, block) -> c.drop(block));
    }
}
