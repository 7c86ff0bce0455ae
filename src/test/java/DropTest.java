/** Promise 8: drop. */
public final class DropTest {
    public static void main(String[] args) {
        BarrierCache x = new BarrierCache(3, 0);
        Check.due("without a slot", x.drop(1), false);
        x.write(1, 10);
        x.read(2);
        x.write(3, 30);
        x.pin(3, true);
        Check.due("dirty", x.drop(1), true);
        Check.due("free", Check.slot(x, 0), "-1 0 -1 0 0 0");
        Check.due("clean", x.drop(2), false);
        Check.due("free", Check.blocks(x), "-1 -1 3");
        Check.due("pinned", x.drop(3), true);
        Check.due("pinned ones", x.total(2), 0);
        Check.due("dirty ones", x.total(1), 0);
        Check.due("flush", x.flush(), 0);
        Check.due("its dirt is lost", x.read(1), 0);
        Check.due("slots taken", x.total(6), 0);

        Check.dueBlocksOnly("drop", x, (c, block) -> c.drop(block));
        Check.duePowerOnly("drop", (c, block) -> c.drop(block));
        Check.end();
    }
}
