/** Promise 7: pin. */
public final class PinTest {
    public static void main(String[] args) {
        ordinary();
        firstAndLastBlock();
        staysOverUse();
        pinnedAreNotTaken();
        takenOnesAreNotPinned();
        wrongCalls();
        Check.end();
    }

    private static void ordinary() {
        BarrierCache x = new BarrierCache(2, 0);
        Check.due("without a slot", x.pin(1, true), false);
        Check.due("without a slot", x.pin(1, false), false);
        x.read(1);
        Check.due("a later slot is not pinned", Check.slot(x, 0), "1 0 -1 0 1 1");
        Check.due("pin", x.pin(1, true), true);
        Check.due("pinned, not used", Check.slot(x, 0), "1 0 -1 1 1 1");
        Check.due("again", x.pin(1, true), true);
        Check.due("pinned ones", x.total(2), 1);
        Check.due("no more", x.pin(1, false), true);
        Check.due("no more", x.slot(0, 3), 0);
        Check.due("pinned ones", x.total(2), 0);
        Check.due("no more, again", x.pin(1, false), true);
        Check.due("not used", Check.slot(x, 0), "1 0 -1 0 1 1");
        Check.due("hits", x.total(4), 0);
    }

    private static void firstAndLastBlock() {
        BarrierCache x = new BarrierCache(2, 0);
        x.read(0);
        x.read(255);
        Check.due("block 0", x.pin(0, true), true);
        Check.due("block 255", x.pin(255, true), true);
        Check.due("pinned ones, all", x.total(2), 2);
        Check.due("block 0, no more", x.pin(0, false), true);
        Check.due("the other stays", x.slot(0, 3) + " " + x.slot(1, 3), "0 1");
    }

    private static void staysOverUse() {
        BarrierCache x = new BarrierCache(2, 0);
        x.read(1);
        x.pin(1, true);
        x.read(1);
        x.write(1, 10);
        x.barrier();
        x.write(1, 11);
        Check.due("read and written", Check.slot(x, 0), "1 11 1 1 4 1");
        x.force(1, 12);
        x.write(1, 13);
        x.flush();
        Check.due("forced and flushed", Check.slot(x, 0), "1 13 -1 1 6 1");
        Check.due("its dirt may go out", x.disk(1), 13);
    }

    private static void pinnedAreNotTaken() {
        for (int policy = 0; policy < 4; policy++) {
            BarrierCache x = new BarrierCache(3, policy);
            x.read(1);
            x.write(2, 2);
            x.write(3, 3);
            x.pin(1, true);
            x.pin(2, true);
            x.read(4);
            Check.due("policy " + policy + ": a dirty one before a clean pinned one", Check.blocks(x), "1 2 4");
            x.pin(4, true);
            x.read(5);
            Check.due("policy " + policy + ": none is taken", Check.blocks(x), "1 2 4");
            x.pin(2, false);
            x.read(5);
            Check.due("policy " + policy + ": the one that is free to go", Check.blocks(x), "1 5 4");
        }
    }

    private static void takenOnesAreNotPinned() {
        BarrierCache x = new BarrierCache(1, 0);
        x.read(1);
        x.pin(1, true);
        x.drop(1);
        x.read(2);
        Check.due("not pinned", Check.slot(x, 0), "2 0 -1 0 1 1");
        x.pin(2, true);
        x.cut(1);
        x.force(3, 3);
        Check.due("without power", x.total(2), 0);
        x.power();
        x.read(2);
        Check.due("not pinned", x.slot(0, 3), 0);
    }

    private static void wrongCalls() {
        BarrierCache x = new BarrierCache(1, 0);
        x.read(4);
        Check.dueBlocksOnly("pin", x, (c, block) -> c.pin(block, true));
        x.pin(4, true);
        Check.dueBlocksOnly("pin no more", x, (c, block) -> c.pin(block, false));
        Check.duePowerOnly("pin", (c, block) -> c.pin(block, true));
        Check.duePowerOnly("pin no more", (c, block) -> c.pin(block, false));
    }
}
