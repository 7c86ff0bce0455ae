/** Promise 10: rank. */
public final class RankTest {
    public static void main(String[] args) {
        answers();
        whenDirtGoesOut();
        withoutPower();
        wrongCalls();
        Check.end();
    }

    private static void answers() {
        BarrierCache x = new BarrierCache(4, 0);
        Check.due("at first", x.rank(0, 5), 0);
        Check.due("then", x.rank(0, -5), 5);
        Check.due("then", x.rank(0, Integer.MIN_VALUE), -5);
        Check.due("another block's", x.rank(255, Integer.MAX_VALUE), 0);
        Check.due("then", x.rank(255, 0), Integer.MAX_VALUE);
        Check.due("the first block's", x.rank(0, 7), Integer.MIN_VALUE);
        Check.due("a block gets no slot by it", x.find(0), -1);
    }

    /** Block 10's rank is told when it is dirty already, block 0's before it has a slot. */
    private static void whenDirtGoesOut() {
        BarrierCache x = new BarrierCache(4, 0);
        x.order(3);
        x.rank(0, 7);
        x.write(0, 1);
        x.write(255, 1);
        x.write(20, 1);
        x.write(10, 1);
        x.rank(10, 7);
        x.flush();
        Check.due("lower ranks first, equal ones by blocks rising", Check.writtenFrom(x, 0), "20 255 0 10");
        x.write(0, 2);
        x.write(10, 2);
        x.rank(0, 8);
        x.flush();
        Check.due("the latest rank counts", Check.writtenFrom(x, 4), "10 0");
        x.drop(10);
        Check.due("it stays without a slot", x.rank(10, 0), 7);
    }

    private static void withoutPower() {
        BarrierCache x = new BarrierCache(1, 0);
        x.rank(2, 9);
        x.cut(1);
        x.force(0, 1);
        Check.due("without power", x.rank(3, 4), 0);
        x.power();
        Check.due("it stays", x.rank(3, 0), 4);
        Check.due("and the one from before", x.rank(2, 0), 9);
        BarrierCache off = Check.withoutPower(1, 0);
        Check.dueBlocksOnly("rank without power", off, (c, block) -> c.rank(block, 1));
    }

    private static void wrongCalls() {
        BarrierCache x = new BarrierCache(4, 0);
        x.rank(0, 7);
        x.rank(255, 8);
        Check.dueBlocksOnly("rank", x, (c, block) -> c.rank(block, 1));
        Check.due("nothing changed", x.rank(0, 0) + " " + x.rank(255, 0), "7 8");
    }
}
