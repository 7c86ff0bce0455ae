/** Promise 10: rank. */
public final class RankTest {
    public static void main(String[] args) {
        BarrierCache x = new BarrierCache(4, 0);
        Check.due("at first", x.rank(0, 5), 0);
        Check.due("then", x.rank(0, -5), 5);
        Check.due("then", x.rank(0, Integer.MIN_VALUE), -5);
        Check.due("another block's", x.rank(255, Integer.MAX_VALUE), 0);
        Check.due("then", x.rank(255, 0), Integer.MAX_VALUE);
        Check.due("the first block's", x.rank(0, 7), Integer.MIN_VALUE);

        x.order(3);
        x.write(0, 1);
        x.write(255, 1);
        x.write(20, 1);
        x.write(10, 1);
        x.rank(10, 7);
        x.flush();
        Check.due("less ranks first, equal ones by blocks rising", Check.writtenFrom(x, 0), "20 255 0 10");

        Check.dueBlocksOnly("rank", x, (c, block) -> c.rank(block, 1));
        Check.due("nothing changed", x.rank(0, 0), 7);

        BarrierCache off = Check.withoutPower(1, 0);
        Check.due("without power", off.rank(3, 4), 0);
        off.power();
        Check.due("it stays", off.rank(3, 0), 4);
        Check.end();
    }
}
