/** Promise 15: find. */
public final class FindTest {
    public static void main(String[] args) {
        BarrierCache x = new BarrierCache(3, 0);
        Check.due("none", x.find(0), BarrierCache.NONE);
        x.write(0, 1);
        x.read(255);
        x.read(7);
        Check.due("slot 0", x.find(0), 0);
        Check.due("slot 1", x.find(255), 1);
        Check.due("slot 2", x.find(7), 2);
        Check.due("none", x.find(8), BarrierCache.NONE);
        Check.due("it is not used", x.slot(0, 4), 1);
        Check.due("hits", x.total(4), 0);
        x.drop(255);
        Check.due("dropped", x.find(255), BarrierCache.NONE);
        x.drop(0);
        x.read(9);
        Check.due("the least free slot", x.find(9), 0);

        Check.dueBlocksOnly("find", x, (c, block) -> c.find(block));
        x.cut(1);
        x.force(9, 1);
        Check.due("without power", x.find(9), BarrierCache.NONE);
        Check.dueBadArgument("without power", () -> x.find(-1));
        Check.end();
    }
}
