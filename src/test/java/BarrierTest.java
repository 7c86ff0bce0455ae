/** Promise 6: barrier. */
public final class BarrierTest {
    public static void main(String[] args) {
        ordinary();
        onAnEmptyObject();
        epochStaysWithoutPower();
        Check.duePowerOnly("barrier", (c, block) -> c.barrier());
        Check.end();
    }

    private static void ordinary() {
        BarrierCache x = new BarrierCache(2, 0);
        x.write(1, 10);
        Check.due("the first", x.barrier(), 1);
        Check.due("the second", x.barrier(), 2);
        Check.due("the epoch", x.total(3), 2);
        Check.due("dirt keeps its epoch", Check.slot(x, 0), "1 10 0 0 1 1");
        Check.due("nothing goes out", x.total(7), 0);
        x.write(2, 20);
        Check.due("new dirt has the new one", x.slot(1, 2), 2);
        Check.due("flush goes by epochs", x.flush(), 2);
        Check.due("a flush is no barrier", x.total(3), 2);
    }

    private static void onAnEmptyObject() {
        BarrierCache x = new BarrierCache(1, 0);
        Check.due("at first", x.total(3), 0);
        for (int i = 1; i <= 500; i++) {
            Check.due("barrier " + i, x.barrier(), i);
        }
        x.write(1, 1);
        Check.due("dirt of the latest", x.slot(0, 2), 500);
    }

    private static void epochStaysWithoutPower() {
        BarrierCache x = new BarrierCache(1, 0);
        x.barrier();
        x.barrier();
        x.cut(1);
        x.force(1, 1);
        Check.due("without power", x.total(3), 2);
        x.power();
        Check.due("with power again", x.total(3), 2);
        Check.due("the next", x.barrier(), 3);
    }
}
