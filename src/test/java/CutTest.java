/** Promise 12: cut. */
public final class CutTest {
    public static void main(String[] args) {
        countsDown();
        theFirstWrite();
        everyKindOfWriteCounts();
        noneAtFirst();
        noneForZero();
        toldAnew();
        nothingMoreOfTheCall();
        everySlotIsFree();
        wrongCalls();
        Check.end();
    }

    private static void countsDown() {
        BarrierCache x = new BarrierCache(2, 0);
        x.cut(3);
        Check.due("what is left", x.total(11), 3);
        x.write(1, 10);
        Check.due("a write to a slot is none to the disk", x.total(11), 3);
        x.force(2, 20);
        Check.due("what is left", x.total(11), 2);
        x.flush();
        Check.due("what is left", x.total(11), 1);
        Check.due("power", x.total(10), 1);
        Check.due("the third", x.force(3, 30), 0);
        Check.due("power", x.total(10), 0);
        Check.due("what is left", x.total(11), 0);
        Check.due("it did not happen", x.disk(3), 0);
        Check.due("those before it did", x.disk(1) + x.disk(2), 30);
        Check.due("written", Check.writtenFrom(x, 0), "2 1");
        Check.due("no more is", x.written(2), -1);
        Check.due("slots", Check.blocks(x), "-1 -1");
    }

    private static void theFirstWrite() {
        BarrierCache x = new BarrierCache(2, 0);
        x.cut(1);
        Check.due("cut 1", x.force(1, 1), 0);
        Check.due("power", x.total(10), 0);
        Check.due("writes", x.total(7), 0);
    }

    /** A read's, a write's, a forced write's, the limits' and a flush's writes to the disk. */
    private static void everyKindOfWriteCounts() {
        BarrierCache x = new BarrierCache(1, 0);
        x.cut(7);
        x.write(1, 1);
        x.read(2);
        Check.due("dirt of a slot that a read takes", x.total(11), 6);
        x.write(3, 3);
        x.write(4, 4);
        Check.due("dirt of a slot that a write takes", x.total(11), 5);
        x.barrier();
        x.write(4, 5);
        Check.due("dirt of an earlier epoch", x.total(11), 4);
        x.pin(4, true);
        x.write(5, 5);
        Check.due("a write that gets no slot", x.total(11), 3);
        x.flush();
        Check.due("a flush", x.total(11), 2);
        x.limits(0, 0);
        x.write(4, 6);
        Check.due("limits", x.total(11), 1);
        Check.due("a forced write", x.force(4, 7), 0);
        Check.due("is the seventh", x.total(10), 0);
        Check.due("the disk has the sixth", x.disk(4), 6);
    }

    private static void noneAtFirst() {
        BarrierCache x = new BarrierCache(1, 0);
        for (int i = 0; i < 250; i++) {
            x.force(i, 1);
        }
        Check.due("writes", x.total(7), 250);
        Check.due("what is left", x.total(11), 0);
    }

    private static void nothingMoreOfTheCall() {
        BarrierCache x = new BarrierCache(3, 0);
        x.write(1, 10);
        x.barrier();
        x.write(1, 11);
        x.write(2, 20);
        x.barrier();
        x.limits(0, 0);
        x.cut(1);
        Check.due("write", x.write(2, 21), 0);
        Check.due("no later write of the call happens", x.total(7), 1);
        Check.due("nor does its slot come back", x.find(2), -1);
        Check.due("a cut that has been is none", x.total(11), 0);
    }

    private static void everySlotIsFree() {
        BarrierCache x = new BarrierCache(4, 2);
        x.read(1);
        x.write(2, 20);
        x.pin(2, true);
        x.write(3, 30);
        x.cut(1);
        x.force(9, 90);
        for (int i = 0; i < 4; i++) {
            Check.due("slot " + i, Check.slot(x, i), "-1 0 -1 0 0 0");
        }
        Check.due("dirty and pinned ones", x.total(1) + x.total(2), 0);
    }

    private static void noneForZero() {
        BarrierCache x = new BarrierCache(2, 0);
        x.cut(1);
        x.cut(0);
        Check.due("what is left", x.total(11), 0);
        Check.due("a write", x.force(1, 1), 1);
        Check.due("what is left", x.total(11), 0);
        Check.due("power", x.total(10), 1);
    }

    private static void toldAnew() {
        BarrierCache x = new BarrierCache(2, 0);
        x.cut(1);
        x.cut(2);
        Check.due("a write", x.force(1, 1), 1);
        x.cut(Integer.MAX_VALUE);
        Check.due("a write", x.force(1, 2), 1);
        Check.due("what is left", x.total(11), Integer.MAX_VALUE - 1);
        x.cut(3);
        x.force(1, 3);
        x.cut(3);
        Check.due("from now on", x.total(11), 3);
        BarrierCache off = Check.withoutPower(1, 0);
        off.cut(5);
        Check.due("without power", off.total(11), 5);
        Check.due("the power stays off", off.total(10), 0);
        off.power();
        Check.due("with power again there is none", off.total(11), 0);
    }

    private static void wrongCalls() {
        BarrierCache x = new BarrierCache(2, 0);
        x.cut(4);
        int[] wrong = {-1, Integer.MIN_VALUE};
        for (int k : wrong) {
            Check.dueBadArgument("cut " + k, () -> {
                x.cut(k);
                return "nothing";
            });
        }
        Check.due("nothing changed", x.total(11), 4);
    }
}
