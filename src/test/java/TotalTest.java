/** Promise 18: total. */
public final class TotalTest {
    public static void main(String[] args) {
        BarrierCache x = new BarrierCache(3, 2);
        x.write(1, 1);
        x.write(1, 2);
        x.read(1);
        x.read(2);
        x.pin(2, true);
        x.barrier();
        x.read(3);
        x.write(4, 4);
        x.force(1, 1);
        x.force(4, 1);
        x.read(5);
        x.write(6, 1);
        x.cut(9);
        due(x, 3, 1, 1, 1, 2, 6, 3, 3, 3, 0, 1, 9);
        x.pin(5, true);
        x.pin(6, true);
        x.cut(1);
        x.read(7);
        due(x, 3, 1, 3, 1, 2, 7, 3, 3, 4, 0, 1, 1);
        x.write(8, 1);
        due(x, 3, 0, 0, 1, 2, 8, 3, 3, 4, 0, 0, 0);
        int[] wrong = {-1, 12, Integer.MIN_VALUE, Integer.MAX_VALUE};
        for (int what : wrong) {
            Check.dueBadArgument("total " + what, () -> x.total(what));
        }
        takenWhenThePowerFails();
        Check.end();
    }

    private static void due(BarrierCache x, int... totals) {
        for (int what = 0; what < 12; what++) {
            Check.due("total " + what, x.total(what), totals[what]);
        }
    }

    /** The slot is taken and the hand moved before its dirt is written out. */
    private static void takenWhenThePowerFails() {
        BarrierCache x = new BarrierCache(2, 2);
        x.write(1, 1);
        x.write(2, 1);
        x.cut(1);
        x.read(3);
        Check.due("slots taken", x.total(6), 1);
        Check.due("the hand", x.total(9), 1);
        Check.due("misses", x.total(5), 3);
    }
}
