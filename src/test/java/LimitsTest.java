/** Promise 11: limits. */
public final class LimitsTest {
    public static void main(String[] args) {
        noneAtFirst();
        downToLow();
        exactlyHighAndOneMore();
        untilLowAre();
        partOfAnEpoch();
        highIsAllowed();
        behindAWriteOnly();
        behindAForcedWrite();
        none();
        lowMayBeAnythingWithoutHigh();
        highAboveAllSlots();
        theCallItselfSendsNothing();
        stayOverThePower();
        powerFails();
        powerFailsBeforeThem();
        wrongCalls();
        Check.end();
    }

    private static void noneAtFirst() {
        BarrierCache x = new BarrierCache(32, 0);
        for (int i = 0; i < 32; i++) {
            Check.due("write " + i, x.write(i, 1), 0);
        }
        Check.due("all are dirty", x.total(1), 32);
    }

    private static void exactlyHighAndOneMore() {
        for (int high = 0; high < 4; high++) {
            BarrierCache x = new BarrierCache(5, 0);
            x.limits(high, 0);
            for (int i = 0; i < high; i++) {
                Check.due("high " + high + ": not more than high", x.write(i, 1), 0);
            }
            Check.due("high " + high + ": dirty ones", x.total(1), high);
            Check.due("high " + high + ": one more", x.write(100, 1), high + 1);
            Check.due("high " + high + ": then none is", x.total(1), 0);
        }
    }

    private static void untilLowAre() {
        for (int low = 0; low <= 3; low++) {
            BarrierCache x = new BarrierCache(5, 0);
            x.limits(3, low);
            x.write(1, 1);
            x.write(2, 1);
            x.write(3, 1);
            Check.due("low " + low + ": writes", x.write(4, 1), 4 - low);
            Check.due("low " + low + ": dirty ones", x.total(1), low);
            Check.due("low " + low + ": the higher blocks stay", low == 0 || x.slot(3, 2) == 0, true);
        }
    }

    private static void partOfAnEpoch() {
        BarrierCache x = new BarrierCache(6, 0);
        x.order(1);
        x.limits(4, 2);
        x.write(1, 1);
        x.barrier();
        x.write(7, 1);
        x.write(8, 1);
        x.write(9, 1);
        x.barrier();
        Check.due("the first epoch, and of the second what has to go", x.write(2, 1), 3);
        Check.due("written", Check.writtenFrom(x, 0), "1 9 8");
        Check.due("7 and 2 are dirty", x.slot(x.find(7), 2) + " " + x.slot(x.find(2), 2), "1 2");
    }

    private static void downToLow() {
        BarrierCache x = new BarrierCache(8, 0);
        x.limits(3, 1);
        x.write(9, 1);
        x.write(8, 1);
        x.barrier();
        x.write(1, 1);
        x.pin(8, true);
        Check.due("high is not passed", x.total(7), 0);
        Check.due("high is passed", x.write(2, 1), 3);
        Check.due("epoch by epoch, in order", Check.writtenFrom(x, 0), "8 9 1");
        Check.due("low are dirty", x.total(1), 1);
        Check.due("the latest is", x.slot(x.find(2), 2), 1);
        x.limits(0, 0);
        Check.due("high 0", x.write(5, 1), 2);
        Check.due("none is dirty", x.total(1), 0);
    }

    private static void highIsAllowed() {
        BarrierCache x = new BarrierCache(4, 0);
        x.limits(2, 2);
        x.write(1, 1);
        x.write(2, 1);
        Check.due("at high", x.total(1), 2);
        Check.due("above it", x.write(3, 1), 1);
        Check.due("the least block went", Check.writtenFrom(x, 0), "1");
        Check.due("on a dirty slot", x.write(3, 2), 0);
    }

    private static void behindAWriteOnly() {
        BarrierCache x = new BarrierCache(4, 0);
        x.write(1, 1);
        x.write(2, 1);
        x.write(3, 1);
        x.limits(1, 0);
        x.read(1);
        x.read(9);
        x.barrier();
        Check.due("nothing goes out before a write", x.total(7), 0);
        Check.due("its own earlier dirt, then down to low", x.write(3, 2), 4);
        Check.due("written", Check.writtenFrom(x, 0), "3 1 2 3");
    }

    private static void behindAForcedWrite() {
        BarrierCache x = new BarrierCache(2, 0);
        x.write(1, 1);
        x.write(2, 1);
        x.pin(1, true);
        x.pin(2, true);
        x.limits(1, 1);
        Check.due("forced, then one more", x.write(3, 1), 2);
        Check.due("written", Check.writtenFrom(x, 0), "3 1");
    }

    private static void none() {
        BarrierCache x = new BarrierCache(4, 0);
        x.limits(0, 0);
        x.limits(-1, 5);
        x.write(1, 1);
        x.limits(0, 0);
        x.limits(Integer.MIN_VALUE, 0);
        x.write(2, 1);
        Check.due("none", x.total(7), 0);
    }

    private static void lowMayBeAnythingWithoutHigh() {
        BarrierCache x = new BarrierCache(2, 0);
        x.limits(-1, Integer.MAX_VALUE);
        x.limits(Integer.MIN_VALUE, 1);
        x.write(1, 1);
        Check.due("none", x.write(2, 1), 0);
        x.limits(0, 0);
        Check.due("high and low alike", x.write(2, 2), 2);
        x.limits(Integer.MAX_VALUE, Integer.MAX_VALUE);
        Check.due("both as high as they may be", x.write(1, 2), 0);
    }

    private static void highAboveAllSlots() {
        BarrierCache x = new BarrierCache(2, 0);
        x.limits(2, 0);
        x.write(1, 1);
        Check.due("all slots may be dirty", x.write(2, 1), 0);
        x.limits(100, 0);
        Check.due("a slot is taken", x.write(3, 1), 1);
        Check.due("dirty ones", x.total(1), 2);
    }

    private static void theCallItselfSendsNothing() {
        BarrierCache x = new BarrierCache(3, 0);
        x.write(1, 1);
        x.write(2, 1);
        x.limits(0, 0);
        x.barrier();
        x.pin(1, true);
        x.read(1);
        x.read(3);
        x.order(1);
        x.rank(1, 1);
        x.drop(3);
        Check.due("nor does any call but a write", x.total(7), 0);
        Check.due("dirty ones", x.total(1), 2);
    }

    private static void stayOverThePower() {
        BarrierCache x = new BarrierCache(3, 0);
        x.limits(1, 0);
        x.cut(1);
        x.force(1, 1);
        x.power();
        x.write(1, 1);
        Check.due("they stay", x.write(2, 1), 2);
    }

    /** The write's own dirt of an earlier epoch fails: it gets no new dirt that limits could send out. */
    private static void powerFailsBeforeThem() {
        BarrierCache x = new BarrierCache(3, 0);
        x.write(1, 10);
        x.write(2, 20);
        x.barrier();
        x.limits(0, 0);
        x.cut(1);
        Check.due("nothing", x.write(1, 11), 0);
        Check.due("disk", x.disk(1) + x.disk(2), 0);
        Check.due("dirty ones", x.total(1), 0);
    }

    private static void powerFails() {
        BarrierCache x = new BarrierCache(4, 0);
        x.limits(1, 0);
        x.write(1, 10);
        x.cut(2);
        Check.due("one of two", x.write(2, 20), 1);
        Check.due("disk 1", x.disk(1), 10);
        Check.due("disk 2", x.disk(2), 0);
        Check.due("power", x.total(10), 0);
        x.limits(0, 0);
        x.power();
        Check.due("limits told without power", x.write(3, 30), 1);
    }

    private static void wrongCalls() {
        BarrierCache x = new BarrierCache(4, 0);
        x.limits(1, 0);
        int[][] wrong = {{3, 4}, {3, -1}, {0, 1}, {0, -1}, {Integer.MAX_VALUE, Integer.MIN_VALUE}, {-1, -1}};
        for (int[] pair : wrong) {
            Check.dueBadArgument("limits " + pair[0] + ", " + pair[1], () -> {
                x.limits(pair[0], pair[1]);
                return "nothing";
            });
        }
        x.write(1, 1);
        Check.due("nothing changed", x.write(2, 1), 2);
    }
}
