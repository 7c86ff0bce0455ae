/** Promise 16: slot. */
public final class SlotTest {
    public static void main(String[] args) {
        numbers();
        marks();
        wrongCalls();
        Check.end();
    }

    private static void numbers() {
        BarrierCache x = new BarrierCache(2, 0);
        Check.due("free", Check.slot(x, 0), "-1 0 -1 0 0 0");
        x.barrier();
        x.write(0, -7);
        Check.due("dirty", Check.slot(x, 0), "0 -7 1 0 1 1");
        x.pin(0, true);
        x.read(0);
        x.read(0);
        Check.due("pinned, used", Check.slot(x, 0), "0 -7 1 1 3 1");
        x.flush();
        Check.due("clean", Check.slot(x, 0), "0 -7 -1 1 3 1");
        x.pin(0, false);
        x.read(1);
        x.read(1);
        x.read(2);
        Check.due("taken", Check.slot(x, 0), "2 0 -1 0 1 1");
        x.drop(2);
        Check.due("free again", Check.slot(x, 0), "-1 0 -1 0 0 0");
    }

    private static void marks() {
        BarrierCache x = new BarrierCache(3, 2);
        x.read(1);
        x.read(2);
        x.read(3);
        x.read(4);
        Check.due("the mark of a taken one", x.slot(0, 5), 1);
        Check.due("lost", x.slot(1, 5) + x.slot(2, 5), 0);
        x.read(3);
        Check.due("set again", x.slot(2, 5), 1);
    }

    private static void wrongCalls() {
        BarrierCache x = new BarrierCache(32, 0);
        Check.due("the last", x.slot(31, 0), -1);
        int[] slots = {-1, 32, Integer.MIN_VALUE, Integer.MAX_VALUE};
        for (int slot : slots) {
            Check.dueBadArgument("slot " + slot, () -> x.slot(slot, 0));
        }
        int[] whats = {-1, 6, Integer.MIN_VALUE, Integer.MAX_VALUE};
        for (int what : whats) {
            Check.dueBadArgument("what " + what, () -> x.slot(0, what));
        }
        Check.due("without power", Check.slot(Check.withoutPower(1, 0), 0), "-1 0 -1 0 0 0");
    }
}
