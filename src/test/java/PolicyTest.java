/** Getting a slot, by each policy (promises 1 to 3). */
public final class PolicyTest {
    public static void main(String[] args) {
        usedLongestAgo();
        gotLongestAgo();
        goingRound();
        goingRoundAmongCleanOnes();
        usedLeastOften();
        Check.end();
    }

    private static BarrierCache full(int policy) {
        BarrierCache x = new BarrierCache(3, policy);
        x.read(1);
        x.read(2);
        x.read(3);
        return x;
    }

    private static void usedLongestAgo() {
        BarrierCache x = full(0);
        x.read(1);
        x.force(2, 9);
        x.read(4);
        Check.due("3 was used longest ago", Check.blocks(x), "1 2 4");
        x.write(1, 1);
        x.read(5);
        Check.due("2 was", Check.blocks(x), "1 5 4");
    }

    private static void gotLongestAgo() {
        BarrierCache x = full(1);
        x.read(1);
        x.write(1, 1);
        x.flush();
        x.read(4);
        Check.due("1 got its slot longest ago", Check.blocks(x), "4 2 3");
        x.drop(2);
        x.read(2);
        x.read(5);
        Check.due("3 did, 2 got its slot anew", Check.blocks(x), "4 2 5");
    }

    private static void goingRound() {
        BarrierCache x = full(2);
        x.read(4);
        Check.due("once round", Check.blocks(x), "4 2 3");
        Check.due("the hand", x.total(9), 1);
        x.read(2);
        x.read(5);
        Check.due("2 is marked, 3 is not", Check.blocks(x), "4 2 5");
        Check.due("the hand goes round", x.total(9), 0);
        Check.due("2 lost its mark", x.slot(1, 5), 0);
        x.read(6);
        Check.due("4 is marked, 2 is not", Check.blocks(x), "4 6 5");
        Check.due("the hand", x.total(9), 2);
        x.drop(4);
        x.read(7);
        Check.due("a free one", Check.blocks(x), "7 6 5");
        Check.due("leaves the hand", x.total(9), 2);
    }

    private static void goingRoundAmongCleanOnes() {
        BarrierCache x = full(2);
        x.write(1, 1);
        x.pin(2, true);
        x.read(4);
        Check.due("the only clean one that is not pinned", Check.blocks(x), "1 2 4");
        Check.due("the others keep their marks", x.slot(0, 5) + x.slot(1, 5), 2);
        Check.due("the hand", x.total(9), 0);
    }

    private static void usedLeastOften() {
        BarrierCache x = full(3);
        x.read(1);
        x.read(3);
        x.read(2);
        x.read(2);
        x.read(4);
        Check.due("1 and 3 twice, 1 longer ago", Check.blocks(x), "4 2 3");
        x.read(5);
        Check.due("4 once", Check.blocks(x), "5 2 3");
        x.force(5, 1);
        x.read(5);
        x.read(6);
        Check.due("3 twice", Check.blocks(x), "5 2 6");
    }
}
