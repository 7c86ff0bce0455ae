/** Promise 16: slot. */
public final class SlotTest {
    public static void main(String[] args) {
        numbers();
        freeOnes();
        cleanAndDirty();
        marks();
        wrongCalls();
        Check.end();
    }

    private static void numbers() {
        BarrierCache x = new BarrierCache(2, 0);
        Check.due("free", Check.slot(x, 0), "-1 0 -1 0 0 0");
        x.barrier();
        x.write(0, -7);
        Check.due("dirty", Check.slot(x, 0), "0 -7 1 0 1 1");
        x.pin(0, true);
        x.read(0);
        x.read(0);
        Check.due("pinned, used", Check.slot(x, 0), "0 -7 1 1 3 1");
        x.flush();
        Check.due("clean", Check.slot(x, 0), "0 -7 -1 1 3 1");
        x.pin(0, false);
        x.read(1);
        x.read(1);
        x.read(2);
        Check.due("taken", Check.slot(x, 0), "2 0 -1 0 1 1");
        x.drop(2);
        Check.due("free again", Check.slot(x, 0), "-1 0 -1 0 0 0");
    }

    /** Of a free one NONE for 0 and 2, and 0 for 1 and 3 to 5, however it became free. */
    private static void freeOnes() {
        BarrierCache x = new BarrierCache(2, 2);
        Check.due("never used", Check.slot(x, 1), "-1 0 -1 0 0 0");
        x.barrier();
        x.write(7, 70);
        x.pin(7, true);
        x.read(7);
        x.drop(7);
        Check.due("dropped", Check.slot(x, 0), "-1 0 -1 0 0 0");
        x.write(7, 70);
        x.pin(7, true);
        x.cut(1);
        x.flush();
        Check.due("without power", Check.slot(x, 0), "-1 0 -1 0 0 0");
        x.power();
        Check.due("with power again", Check.slot(x, 0), "-1 0 -1 0 0 0");
    }

    private static void cleanAndDirty() {
        BarrierCache x = new BarrierCache(1, 0);
        x.read(0);
        Check.due("clean", x.slot(0, 2), BarrierCache.NONE);
        x.write(0, 1);
        Check.due("dirty of epoch 0", x.slot(0, 2), 0);
        x.barrier();
        Check.due("yet", x.slot(0, 2), 0);
        x.write(0, 2);
        Check.due("dirty of epoch 1", x.slot(0, 2), 1);
        x.force(0, 3);
        Check.due("clean again", x.slot(0, 2), BarrierCache.NONE);
    }

    private static void marks() {
        BarrierCache x = new BarrierCache(3, 2);
        x.read(1);
        x.read(2);
        x.read(3);
        x.read(4);
        Check.due("the mark of a taken one", x.slot(0, 5), 1);
        Check.due("lost", x.slot(1, 5) + x.slot(2, 5), 0);
        x.read(3);
        Check.due("set again", x.slot(2, 5), 1);
    }

    private static void wrongCalls() {
        int[] counts = {1, 2, 8, 31, 32};
        for (int n : counts) {
            BarrierCache x = new BarrierCache(n, 0);
            Check.due("the last of " + n, x.slot(n - 1, 0), -1);
            int[] noSlots = {-1, n, Integer.MIN_VALUE, Integer.MAX_VALUE};
            for (int slot : noSlots) {
                Check.dueBadArgument("slot " + slot + " of " + n, () -> x.slot(slot, 0));
            }
        }
        BarrierCache busy = new BarrierCache(2, 0);
        busy.write(1, 10);
        dueNumbersOnly(busy);
        dueNumbersOnly(Check.withoutPower(2, 0));
    }

    private static void dueNumbersOnly(BarrierCache x) {
        String before = Check.state(x);
        int[] whats = {-1, 6, Integer.MIN_VALUE, Integer.MAX_VALUE};
        for (int what : whats) {
            Check.dueBadArgument("what " + what, () -> x.slot(0, what));
            Check.dueBadArgument("what " + what + " of a free one", () -> x.slot(1, what));
            Check.dueBadArgument("neither slot nor what " + what, () -> x.slot(2, what));
        }
        Check.due("nothing changed", Check.state(x), before);
    }
}
