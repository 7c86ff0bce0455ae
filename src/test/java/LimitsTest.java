/** Promise 11: limits. */
public final class LimitsTest {
    public static void main(String[] args) {
        downToLow();
        highIsAllowed();
        behindAWriteOnly();
        behindAForcedWrite();
        none();
        powerFails();
        wrongCalls();
        Check.end();
    }

    private static void downToLow() {
        BarrierCache x = new BarrierCache(8, 0);
        x.limits(3, 1);
        x.write(9, 1);
        x.write(8, 1);
        x.barrier();
        x.write(1, 1);
        x.pin(8, true);
        Check.due("high is not passed", x.total(7), 0);
        Check.due("high is passed", x.write(2, 1), 3);
        Check.due("epoch by epoch, in order", Check.writtenFrom(x, 0), "8 9 1");
        Check.due("low are dirty", x.total(1), 1);
        Check.due("the latest is", x.slot(x.find(2), 2), 1);
        x.limits(0, 0);
        Check.due("high 0", x.write(5, 1), 2);
        Check.due("none is dirty", x.total(1), 0);
    }

    private static void highIsAllowed() {
        BarrierCache x = new BarrierCache(4, 0);
        x.limits(2, 2);
        x.write(1, 1);
        x.write(2, 1);
        Check.due("at high", x.total(1), 2);
        Check.due("above it", x.write(3, 1), 1);
        Check.due("the least block went", Check.writtenFrom(x, 0), "1");
        Check.due("on a dirty slot", x.write(3, 2), 0);
    }

    private static void behindAWriteOnly() {
        BarrierCache x = new BarrierCache(4, 0);
        x.write(1, 1);
        x.write(2, 1);
        x.write(3, 1);
        x.limits(1, 0);
        x.read(1);
        x.read(9);
        x.barrier();
        Check.due("nothing goes out before a write", x.total(7), 0);
        Check.due("its own earlier dirt, then down to low", x.write(3, 2), 4);
        Check.due("written", Check.writtenFrom(x, 0), "3 1 2 3");
    }

    private static void behindAForcedWrite() {
        BarrierCache x = new BarrierCache(2, 0);
        x.write(1, 1);
        x.write(2, 1);
        x.pin(1, true);
        x.pin(2, true);
        x.limits(1, 1);
        Check.due("forced, then one more", x.write(3, 1), 2);
        Check.due("written", Check.writtenFrom(x, 0), "3 1");
    }

    private static void none() {
        BarrierCache x = new BarrierCache(4, 0);
        x.limits(0, 0);
        x.limits(-1, 5);
        x.write(1, 1);
        x.limits(0, 0);
        x.limits(Integer.MIN_VALUE, 0);
        x.write(2, 1);
        Check.due("none", x.total(7), 0);
    }

    private static void powerFails() {
        BarrierCache x = new BarrierCache(4, 0);
        x.limits(1, 0);
        x.write(1, 10);
        x.cut(2);
        Check.due("one of two", x.write(2, 20), 1);
        Check.due("disk 1", x.disk(1), 10);
        Check.due("disk 2", x.disk(2), 0);
        Check.due("power", x.total(10), 0);
        x.limits(0, 0);
        x.power();
        Check.due("limits told without power", x.write(3, 30), 1);
    }

    private static void wrongCalls() {
        BarrierCache x = new BarrierCache(4, 0);
        x.limits(1, 0);
        int[][] wrong = {{3, 4}, {3, -1}, {0, 1}, {0, -1}, {Integer.MAX_VALUE, Integer.MIN_VALUE}, {-1, -1}};
        for (int[] pair : wrong) {
            Check.dueBadArgument("limits " + pair[0] + ", " + pair[1], () -> {
                x.limits(pair[0], pair[1]);
                return "nothing";
            });
        }
        x.write(1, 1);
        Check.due("nothing changed", x.write(2, 1), 2);
    }
}
