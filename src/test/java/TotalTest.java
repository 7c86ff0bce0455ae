/** Promise 18: total. */
public final class TotalTest {
    public static void main(String[] args) {
        allOfThem();
        hitsAndMisses();
        readsFromTheDisk();
        slotsTaken();
        takenWhenThePowerFails();
        hitsWhenThePowerFails();
        wrongCalls();
        Check.end();
    }

    private static void due(BarrierCache x, int... totals) {
        for (int what = 0; what < 12; what++) {
            Check.due("total " + what, x.total(what), totals[what]);
        }
    }

    private static void allOfThem() {
        BarrierCache x = new BarrierCache(3, 2);
        x.write(1, 1);
        x.write(1, 2);
        x.read(1);
        x.read(2);
        x.pin(2, true);
        x.barrier();
        x.read(3);
        x.write(4, 4);
        x.force(1, 1);
        x.force(4, 1);
        x.read(5);
        x.write(6, 1);
        x.cut(9);
        due(x, 3, 1, 1, 1, 2, 6, 3, 3, 3, 0, 1, 9);
        x.pin(5, true);
        x.pin(6, true);
        x.cut(1);
        x.read(7);
        due(x, 3, 1, 3, 1, 2, 7, 3, 3, 4, 0, 1, 1);
        x.write(8, 1);
        due(x, 3, 0, 0, 1, 2, 8, 3, 3, 4, 0, 0, 0);
    }

    /** Of read and write alone, by whether the block has a slot. */
    private static void hitsAndMisses() {
        BarrierCache x = new BarrierCache(1, 0);
        x.write(1, 1);
        x.write(2, 2);
        x.read(2);
        x.write(2, 3);
        x.read(3);
        Check.due("hits and misses", x.total(4) + " " + x.total(5), "2 3");
        x.force(3, 1);
        x.force(4, 1);
        x.pin(3, true);
        x.pin(4, true);
        x.find(3);
        x.disk(3);
        x.drop(4);
        x.flush();
        Check.due("no other call is one", x.total(4) + " " + x.total(5), "2 3");
        x.read(5);
        x.write(5, 5);
        Check.due("without a slot to get, misses", x.total(4) + " " + x.total(5), "2 5");
    }

    private static void readsFromTheDisk() {
        BarrierCache x = new BarrierCache(1, 0);
        x.write(1, 1);
        x.force(2, 1);
        x.disk(1);
        Check.due("neither a write nor a look at the disk", x.total(8), 0);
        x.read(1);
        Check.due("nor a hit", x.total(8), 0);
        x.read(2);
        Check.due("a miss", x.total(8), 1);
        x.pin(2, true);
        x.read(3);
        Check.due("a miss without a slot to get", x.total(8), 2);
    }

    private static void slotsTaken() {
        BarrierCache x = new BarrierCache(1, 0);
        x.read(1);
        x.drop(1);
        x.read(2);
        Check.due("free ones are not taken", x.total(6), 0);
        x.read(3);
        Check.due("by a read", x.total(6), 1);
        x.write(4, 1);
        Check.due("by a write", x.total(6), 2);
        x.write(5, 1);
        Check.due("a dirty one", x.total(6), 3);
        x.pin(5, true);
        x.write(6, 1);
        x.force(7, 1);
        Check.due("none by what is forced", x.total(6), 3);
        x.cut(1);
        x.flush();
        Check.due("none by the power", x.total(6), 3);
    }

    /** The slot is taken and the hand moved before its dirt is written out. */
    private static void takenWhenThePowerFails() {
        BarrierCache x = new BarrierCache(2, 2);
        x.write(1, 1);
        x.write(2, 1);
        x.cut(1);
        x.read(3);
        Check.due("slots taken", x.total(6), 1);
        Check.due("the hand", x.total(9), 1);
        Check.due("misses", x.total(5), 3);
    }

    private static void hitsWhenThePowerFails() {
        BarrierCache x = new BarrierCache(1, 0);
        x.write(1, 1);
        x.barrier();
        x.cut(1);
        x.write(1, 2);
        Check.due("the block has a slot when the write begins", x.total(4), 1);
        Check.due("misses", x.total(5), 1);
    }

    private static void wrongCalls() {
        BarrierCache x = new BarrierCache(1, 0);
        BarrierCache off = Check.withoutPower(1, 0);
        int[] wrong = {-1, 12, Integer.MIN_VALUE, Integer.MAX_VALUE};
        for (int what : wrong) {
            Check.dueBadArgument("total " + what, () -> x.total(what));
            Check.dueBadArgument("total " + what + " without power", () -> off.total(what));
        }
    }
}
