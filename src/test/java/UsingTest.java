/** Terms: USING a slot: its latest stamp is a new one, it is used once more, its mark is set. */
public final class UsingTest {
    public static void main(String[] args) {
        dueUse("read", (x, block) -> x.read(block));
        dueUse("write", (x, block) -> x.write(block, 5));
        dueUse("write behind a barrier", (x, block) -> x.barrier() + x.write(block, 5));
        dueUse("force", (x, block) -> x.force(block, 5));
        dueUse("force behind a barrier", (x, block) -> x.barrier() + x.force(block, 5));

        dueNoUse("flush", (x, block) -> x.flush());
        dueNoUse("barrier", (x, block) -> x.barrier());
        dueNoUse("pin", (x, block) -> x.pin(block, true) && x.pin(block, false));
        dueNoUse("drop of another", (x, block) -> x.drop(100));
        dueNoUse("rank", (x, block) -> x.rank(block, 5));
        dueNoUse("disk", (x, block) -> x.disk(block));
        dueNoUse("find", (x, block) -> x.find(block));
        dueNoUse("slot", (x, block) -> x.slot(x.find(block), 1));
        dueNoUse("force of another", (x, block) -> x.force(100, 1));
        dueNoUse("power", (x, block) -> x.power());
        goingOutIsNoUse();
        Check.end();
    }

    private static void dueUse(String name, Check.BlockCall call) {
        Check.due(name + ": uses and mark", usesAndMarkBehind(call), "2 1");
        Check.due(name + ": the other was used longest ago", takenBehind(call), 2);
    }

    private static void dueNoUse(String name, Check.BlockCall call) {
        Check.due(name + ": uses and mark", usesAndMarkBehind(call), "1 0");
        Check.due(name + ": it was used longest ago", takenBehind(call), 1);
    }

    /** The call is for block 2, which was used once and has lost its mark to the hand. */
    private static String usesAndMarkBehind(Check.BlockCall call) {
        BarrierCache x = new BarrierCache(2, 2);
        x.write(1, 10);
        x.write(2, 20);
        x.read(3);
        Check.due("before: uses and mark", x.slot(1, 4) + " " + x.slot(1, 5), "1 0");
        call.answer(x, 2);
        return x.slot(1, 4) + " " + x.slot(1, 5);
    }

    /** The block that policy 0 takes the slot from behind a call for block 1, both being clean. */
    private static int takenBehind(Check.BlockCall call) {
        BarrierCache x = new BarrierCache(2, 0);
        x.write(1, 10);
        x.write(2, 20);
        call.answer(x, 1);
        x.flush();
        x.read(3);
        return x.find(1) == -1 ? 1 : 2;
    }

    /** Limits and a taken slot's barrier send block 1 out; it was used longest ago all the same. */
    private static void goingOutIsNoUse() {
        BarrierCache x = new BarrierCache(2, 0);
        x.write(1, 10);
        x.limits(1, 1);
        x.write(2, 20);
        Check.due("sent out by limits", Check.slot(x, 0), "1 10 -1 0 1 1");
        x.flush();
        x.read(3);
        Check.due("1 was used longest ago", Check.blocks(x), "3 2");

        BarrierCache y = new BarrierCache(3, 1);
        y.read(4);
        y.write(1, 10);
        y.write(2, 20);
        y.barrier();
        y.write(4, 40);
        y.read(5);
        Check.due("written", Check.writtenFrom(y, 0), "1 2 4");
        Check.due("sent out before a taken slot's dirt", Check.slot(y, 1), "1 10 -1 0 1 1");
    }
}
