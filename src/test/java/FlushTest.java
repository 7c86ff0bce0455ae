/** Promise 5: flush. */
public final class FlushTest {
    public static void main(String[] args) {
        allDirt();
        allSlotsDirty();
        powerFailsBetweenAnyTwoWrites();
        wrongCalls();
        Check.end();
    }

    private static BarrierCache twoEpochs() {
        BarrierCache x = new BarrierCache(8, 0);
        x.read(50);
        x.write(9, 90);
        x.write(7, 70);
        x.barrier();
        x.write(8, 80);
        x.write(1, 10);
        x.pin(1, true);
        return x;
    }

    private static void allDirt() {
        BarrierCache x = twoEpochs();
        Check.due("flush", x.flush(), 4);
        Check.due("epoch by epoch, in order", Check.writtenFrom(x, 0), "7 9 1 8");
        Check.due("no dirt", x.total(1), 0);
        Check.due("what is in the slots stays, pins too, and is not used", Check.slot(x, 4), "1 10 -1 1 1 1");
        Check.due("disk", x.disk(7) + x.disk(9) + x.disk(1) + x.disk(8), 250);
        Check.due("without dirt", x.flush(), 0);
        Check.due("a new object's", new BarrierCache(1, 0).flush(), 0);
    }

    private static void allSlotsDirty() {
        BarrierCache x = new BarrierCache(32, 0);
        StringBuilder due = new StringBuilder("200");
        for (int i = 0; i < 32; i++) {
            x.write(200 + i, i);
            due.append(i == 0 ? "" : " " + (200 + i));
        }
        Check.due("flush", x.flush(), 32);
        Check.due("written", Check.writtenFrom(x, 0), due.toString());
        Check.due("dirty ones", x.total(1), 0);
        Check.due("again", x.flush(), 0);
        BarrierCache one = new BarrierCache(1, 0);
        one.write(0, 5);
        Check.due("one slot", one.flush(), 1);
        one.read(0);
        Check.due("a clean one", one.flush(), 0);
    }

    private static void powerFailsBetweenAnyTwoWrites() {
        int[] blocks = {7, 9, 1, 8};
        for (int k = 1; k <= 4; k++) {
            BarrierCache x = twoEpochs();
            x.cut(k);
            Check.due("flush with cut " + k, x.flush(), k - 1);
            for (int i = 0; i < 4; i++) {
                Check.due("cut " + k + ": disk " + blocks[i], x.disk(blocks[i]), i < k - 1 ? 10 * blocks[i] : 0);
            }
            Check.due("cut " + k + ": slots", Check.blocks(x), "-1 -1 -1 -1 -1 -1 -1 -1");
            Check.due("cut " + k + ": dirty and pinned ones", x.total(1) + x.total(2), 0);
            Check.due("cut " + k + ": power", x.total(10), 0);
        }
        BarrierCache x = twoEpochs();
        x.cut(5);
        Check.due("a cut behind the flush", x.flush(), 4);
        Check.due("power", x.total(10), 1);
        Check.due("what is left", x.total(11), 1);
    }

    private static void wrongCalls() {
        Check.duePowerOnly("flush", (c, block) -> c.flush());
    }
}
