/** Promise 9: order. */
public final class OrderTest {
    public static void main(String[] args) {
        Check.due("rising", flushedBy(0), "2 3 6 7 8 / 1 9");
        Check.due("falling", flushedBy(1), "8 7 6 3 2 / 9 1");
        Check.due("by when they became dirty", flushedBy(2), "7 2 3 8 6 / 9 1");
        Check.due("by ranks", flushedBy(3), "8 3 7 2 6 / 9 1");
        dirtyAnewBehindABarrier();
        dirtyAnewInAnotherSlot();
        writtenAgainWhileDirty();
        oneOrderForAnother();
        negativeRanksAndEqualOnes();
        ranksForTheirOrderAlone();
        answers();
        wrongCalls();
        Check.end();
    }

    /** The order of a flush; block 6 becomes clean and dirty again, 2 is only written again. */
    private static String flushedBy(int kind) {
        BarrierCache x = new BarrierCache(8, 0);
        x.write(6, 1);
        x.force(6, 2);
        x.write(7, 1);
        x.write(2, 1);
        x.read(8);
        x.write(3, 1);
        x.write(8, 1);
        x.write(2, 2);
        x.write(6, 3);
        x.barrier();
        x.write(9, 1);
        x.write(1, 1);
        x.rank(8, Integer.MIN_VALUE);
        x.rank(2, 5);
        x.rank(6, Integer.MAX_VALUE);
        x.rank(9, -9);
        x.order(kind);
        int before = x.total(7);
        x.flush();
        String all = Check.writtenFrom(x, before);
        return all.substring(0, 9) + " / " + all.substring(10);
    }

    /** Block 1 is written out, and so clean, before it becomes dirty of the new epoch. */
    private static void dirtyAnewBehindABarrier() {
        BarrierCache x = new BarrierCache(3, 0);
        x.order(2);
        x.write(1, 1);
        x.barrier();
        x.write(2, 2);
        x.write(1, 3);
        x.flush();
        Check.due("by when they became dirty last", Check.writtenFrom(x, 0), "1 2 1");
    }

    /** Dropped dirt is gone, so that the block becomes dirty last when it is written anew. */
    private static void dirtyAnewInAnotherSlot() {
        BarrierCache x = new BarrierCache(3, 0);
        x.order(2);
        x.write(1, 1);
        x.write(2, 2);
        x.drop(1);
        x.write(3, 3);
        x.write(1, 4);
        x.flush();
        Check.due("1 came last", Check.writtenFrom(x, 0), "2 3 1");
    }

    private static void writtenAgainWhileDirty() {
        BarrierCache x = new BarrierCache(3, 0);
        x.order(2);
        x.write(3, 1);
        x.write(1, 2);
        x.write(3, 3);
        x.read(3);
        x.write(2, 4);
        x.write(1, 5);
        x.flush();
        Check.due("neither a write while dirty nor a read counts", Check.writtenFrom(x, 0), "3 1 2");
    }

    private static void oneOrderForAnother() {
        BarrierCache x = new BarrierCache(4, 0);
        x.limits(3, 2);
        x.write(5, 1);
        x.write(4, 1);
        x.write(6, 1);
        x.write(3, 1);
        x.order(1);
        x.flush();
        Check.due("two rising, then two falling", Check.writtenFrom(x, 0), "3 4 6 5");
    }

    private static void negativeRanksAndEqualOnes() {
        BarrierCache x = new BarrierCache(6, 0);
        x.order(3);
        int[] blocks = {5, 0, 255, 7, 6, 1};
        int[] ranks = {Integer.MAX_VALUE, 1, -1, 0, 0, Integer.MIN_VALUE};
        for (int i = 0; i < blocks.length; i++) {
            x.write(blocks[i], 1);
            x.rank(blocks[i], ranks[i]);
        }
        x.flush();
        Check.due("ranks rising, 6 before 7", Check.writtenFrom(x, 0), "1 255 6 7 0 5");
    }

    private static void ranksForTheirOrderAlone() {
        String[] due = {"1 2 3", "3 2 1", "2 3 1", "3 1 2"};
        for (int kind = 0; kind < 4; kind++) {
            BarrierCache x = new BarrierCache(3, 0);
            x.rank(3, -1);
            x.rank(2, 1);
            x.order(kind);
            x.write(2, 1);
            x.write(3, 1);
            x.write(1, 1);
            x.flush();
            Check.due("order " + kind, Check.writtenFrom(x, 0), due[kind]);
        }
    }

    private static void answers() {
        BarrierCache x = new BarrierCache(1, 0);
        Check.due("at first", x.order(3), 0);
        Check.due("then", x.order(1), 3);
        Check.due("then", x.order(1), 1);
        Check.due("then", x.order(2), 1);
        Check.due("then", x.order(0), 2);
        BarrierCache off = Check.withoutPower(1, 0);
        Check.due("without power", off.order(2), 0);
        off.power();
        Check.due("it stays", off.order(0), 2);
    }

    private static void wrongCalls() {
        BarrierCache x = new BarrierCache(1, 0);
        x.order(2);
        int[] wrong = {-1, 4, Integer.MIN_VALUE, Integer.MAX_VALUE};
        for (int kind : wrong) {
            Check.dueBadArgument("order " + kind, () -> x.order(kind));
        }
        Check.due("nothing changed", x.order(0), 2);
    }
}
