/** Promise 12: cut. */
public final class CutTest {
    public static void main(String[] args) {
        countsDown();
        noneForZero();
        toldAnew();
        wrongCalls();
        Check.end();
    }

    private static void countsDown() {
        BarrierCache x = new BarrierCache(2, 0);
        x.cut(3);
        Check.due("what is left", x.total(11), 3);
        x.write(1, 10);
        Check.due("a write to a slot is none to the disk", x.total(11), 3);
        x.force(2, 20);
        Check.due("what is left", x.total(11), 2);
        x.flush();
        Check.due("what is left", x.total(11), 1);
        Check.due("power", x.total(10), 1);
        Check.due("the third", x.force(3, 30), 0);
        Check.due("power", x.total(10), 0);
        Check.due("what is left", x.total(11), 0);
        Check.due("it did not happen", x.disk(3), 0);
        Check.due("those before it did", x.disk(1) + x.disk(2), 30);
        Check.due("written", Check.writtenFrom(x, 0), "2 1");
        Check.due("no more is", x.written(2), -1);
        Check.due("slots", Check.blocks(x), "-1 -1");
    }

    private static void noneForZero() {
        BarrierCache x = new BarrierCache(2, 0);
        x.cut(1);
        x.cut(0);
        Check.due("what is left", x.total(11), 0);
        Check.due("a write", x.force(1, 1), 1);
        Check.due("what is left", x.total(11), 0);
        Check.due("power", x.total(10), 1);
    }

    private static void toldAnew() {
        BarrierCache x = new BarrierCache(2, 0);
        x.cut(1);
        x.cut(2);
        Check.due("a write", x.force(1, 1), 1);
        x.cut(Integer.MAX_VALUE);
        Check.due("a write", x.force(1, 2), 1);
        Check.due("what is left", x.total(11), Integer.MAX_VALUE - 1);
        BarrierCache off = Check.withoutPower(1, 0);
        off.cut(5);
        Check.due("without power", off.total(11), 5);
        Check.due("the power stays off", off.total(10), 0);
    }

    private static void wrongCalls() {
        BarrierCache x = new BarrierCache(2, 0);
        x.cut(4);
        int[] wrong = {-1, Integer.MIN_VALUE};
        for (int k : wrong) {
            Check.dueBadArgument("cut " + k, () -> {
                x.cut(k);
                return "nothing";
            });
        }
        Check.due("nothing changed", x.total(11), 4);
    }
}
