/** Promise 15: find. */
public final class FindTest {
    public static void main(String[] args) {
        ordinary();
        firstAndLastSlot();
        withoutPower();
        wrongCalls();
        Check.end();
    }

    private static void ordinary() {
        BarrierCache x = new BarrierCache(3, 0);
        Check.due("none", x.find(0), BarrierCache.NONE);
        x.write(0, 1);
        x.read(255);
        x.read(7);
        Check.due("slot 0", x.find(0), 0);
        Check.due("slot 1", x.find(255), 1);
        Check.due("slot 2", x.find(7), 2);
        Check.due("none", x.find(8), BarrierCache.NONE);
        Check.due("it is not used", x.slot(0, 4), 1);
        Check.due("hits", x.total(4), 0);
        x.drop(255);
        Check.due("dropped", x.find(255), BarrierCache.NONE);
        x.drop(0);
        x.read(9);
        Check.due("the least free slot", x.find(9), 0);
        x.force(100, 1);
        Check.due("a forced one has none", x.find(100), BarrierCache.NONE);
    }

    private static void firstAndLastSlot() {
        BarrierCache x = new BarrierCache(32, 0);
        for (int i = 0; i < 32; i++) {
            x.read(255 - i);
        }
        Check.due("the first", x.find(255), 0);
        Check.due("the last", x.find(224), 31);
        Check.due("none", x.find(223), BarrierCache.NONE);
        x.read(0);
        Check.due("taken", x.find(0), 0);
        Check.due("its block before has none", x.find(255), BarrierCache.NONE);
    }

    private static void withoutPower() {
        BarrierCache x = new BarrierCache(2, 0);
        x.read(9);
        x.cut(1);
        x.force(9, 1);
        Check.due("without power", x.find(9), BarrierCache.NONE);
        Check.dueBlocksOnly("find without power", x, (c, block) -> c.find(block));
        x.power();
        Check.due("with power again", x.find(9), BarrierCache.NONE);
    }

    private static void wrongCalls() {
        BarrierCache x = new BarrierCache(3, 0);
        x.write(4, 4);
        Check.dueBlocksOnly("find", x, (c, block) -> c.find(block));
    }
}
