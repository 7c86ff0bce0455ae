/** Promise 6: barrier. */
public final class BarrierTest {
    public static void main(String[] args) {
        BarrierCache x = new BarrierCache(2, 0);
        x.write(1, 10);
        Check.due("the first", x.barrier(), 1);
        Check.due("the second", x.barrier(), 2);
        Check.due("the epoch", x.total(3), 2);
        Check.due("dirt keeps its epoch", Check.slot(x, 0), "1 10 0 0 1 1");
        Check.due("nothing goes out", x.total(7), 0);
        x.write(2, 20);
        Check.due("new dirt has the new one", x.slot(1, 2), 2);
        Check.due("flush goes by epochs", x.flush(), 2);
        for (int i = 3; i <= 100; i++) {
            Check.due("barrier " + i, x.barrier(), i);
        }

        Check.duePowerOnly("barrier", (c, block) -> c.barrier());
        Check.end();
    }
}
