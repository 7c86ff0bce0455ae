/** Promise 14: disk. */
public final class DiskTest {
    public static void main(String[] args) {
        BarrierCache x = new BarrierCache(2, 0);
        x.write(0, 5);
        Check.due("dirt is not there", x.disk(0), 0);
        x.flush();
        Check.due("then it is", x.disk(0), 5);
        x.force(255, Integer.MIN_VALUE);
        Check.due("forced", x.disk(255), Integer.MIN_VALUE);
        x.write(0, 6);
        Check.due("the old one", x.disk(0), 5);
        Check.due("no read is counted", x.total(8), 0);
        Check.due("no slot is used", x.slot(0, 4), 2);

        Check.dueBlocksOnly("disk", x, (c, block) -> c.disk(block));
        x.cut(1);
        x.flush();
        Check.due("without power", x.disk(0), 5);
        Check.end();
    }
}
