/** Promise 14: disk. */
public final class DiskTest {
    public static void main(String[] args) {
        ordinary();
        everyBlock();
        withoutPower();
        wrongCalls();
        Check.end();
    }

    private static void ordinary() {
        BarrierCache x = new BarrierCache(2, 0);
        x.write(0, 5);
        Check.due("dirt is not there", x.disk(0), 0);
        x.flush();
        Check.due("then it is", x.disk(0), 5);
        x.force(255, Integer.MIN_VALUE);
        Check.due("forced", x.disk(255), Integer.MIN_VALUE);
        x.write(0, 6);
        Check.due("the old one", x.disk(0), 5);
        Check.due("no read is counted", x.total(8), 0);
        Check.due("no hit or miss", x.total(4) + " " + x.total(5), "1 1");
        Check.due("no slot is used", x.slot(0, 4), 2);
        Check.due("none is got", x.find(255), -1);
        x.drop(0);
        Check.due("lost dirt never comes", x.disk(0), 5);
    }

    private static void everyBlock() {
        BarrierCache x = new BarrierCache(1, 0);
        for (int block = 0; block < 256; block++) {
            x.force(block, block + 1);
        }
        for (int block = 0; block < 256; block++) {
            Check.due("disk " + block, x.disk(block), block + 1);
        }
    }

    private static void withoutPower() {
        BarrierCache x = new BarrierCache(2, 0);
        x.force(0, 5);
        x.write(0, 6);
        x.cut(1);
        x.flush();
        Check.due("without power", x.disk(0), 5);
        Check.dueBlocksOnly("disk without power", x, (c, block) -> c.disk(block));
        x.power();
        Check.due("with power again", x.disk(0), 5);
    }

    private static void wrongCalls() {
        BarrierCache x = new BarrierCache(2, 0);
        x.write(4, 4);
        Check.dueBlocksOnly("disk", x, (c, block) -> c.disk(block));
    }
}
