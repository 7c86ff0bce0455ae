/** Terms: the policy of going round from the hand on. */
public final class GoingRoundTest {
    public static void main(String[] args) {
        fromSlotZeroAtFirst();
        theFirstUnmarkedOne();
        theHandGoesRound();
        aFreeOneLeavesTheHand();
        onceRoundFromTheMiddle();
        twiceToTheSlotBeforeTheHand();
        oneSlot();
        allThirtyTwo();
        onlyCleanOnesLoseMarks();
        onlyDirtyOnesThatAreNotPinnedLoseMarks();
        noneToTake();
        Check.end();
    }

    private static BarrierCache full(int slots) {
        BarrierCache x = new BarrierCache(slots, 2);
        for (int i = 0; i < slots; i++) {
            x.read(i + 1);
        }
        return x;
    }

    private static String marks(BarrierCache x) {
        StringBuilder b = new StringBuilder();
        for (int i = 0; i < x.total(0); i++) {
            b.append(x.slot(i, 5));
        }
        return b.toString();
    }

    private static void due(String what, BarrierCache x, String blocks, String marks, int hand) {
        Check.due(what + ": blocks", Check.blocks(x), blocks);
        Check.due(what + ": marks", marks(x), marks);
        Check.due(what + ": the hand", x.total(9), hand);
    }

    private static void fromSlotZeroAtFirst() {
        BarrierCache x = full(3);
        due("before one is taken", x, "1 2 3", "111", 0);
        x.read(4);
        due("all were marked", x, "4 2 3", "100", 1);
    }

    private static void theFirstUnmarkedOne() {
        BarrierCache x = full(3);
        x.read(4);
        x.read(5);
        due("the hand's own slot is not marked", x, "4 5 3", "110", 2);
        x.read(6);
        due("the last one is not", x, "4 5 6", "111", 0);
    }

    private static void theHandGoesRound() {
        BarrierCache x = full(3);
        x.read(4);
        x.read(2);
        x.read(5);
        due("2 is marked, 3 is not; behind the last slot is slot 0", x, "4 2 5", "101", 0);
        x.read(6);
        due("4 is marked, 2 is not", x, "4 6 5", "011", 2);
        x.read(7);
        due("5 is marked, 4 is not", x, "7 6 5", "110", 1);
    }

    private static void aFreeOneLeavesTheHand() {
        BarrierCache x = full(3);
        x.read(4);
        x.drop(3);
        x.read(5);
        due("a free one", x, "4 2 5", "101", 1);
    }

    private static void onceRoundFromTheMiddle() {
        BarrierCache x = full(4);
        x.read(5);
        x.read(6);
        x.read(3);
        x.read(4);
        due("all are marked", x, "5 6 3 4", "1111", 2);
        x.read(7);
        due("once round, to the hand's own slot", x, "5 6 7 4", "0010", 3);
    }

    /** The only slot of these is the last that the hand comes to, and is marked: two whole rounds. */
    private static void twiceToTheSlotBeforeTheHand() {
        BarrierCache x = full(3);
        x.read(4);
        x.pin(2, true);
        x.pin(3, true);
        x.read(2);
        x.read(3);
        due("4 alone may be taken", x, "4 2 3", "111", 1);
        x.read(5);
        due("it is", x, "5 2 3", "111", 1);
    }

    private static void oneSlot() {
        BarrierCache x = new BarrierCache(1, 2);
        x.read(1);
        x.read(2);
        due("one slot", x, "2", "1", 0);
        x.write(3, 3);
        due("one slot", x, "3", "1", 0);
        x.write(4, 4);
        due("one dirty slot", x, "4", "1", 0);
        Check.due("taken", x.total(6), 3);
    }

    private static void allThirtyTwo() {
        BarrierCache x = full(32);
        for (int i = 0; i < 31; i++) {
            x.read(100 + i);
        }
        Check.due("31 were taken in turn", x.total(9), 31);
        Check.due("the last is the next", x.slot(31, 0), 32);
        x.read(200);
        Check.due("it is taken", x.slot(31, 0), 200);
        Check.due("the hand is at the first again", x.total(9), 0);
    }

    private static void onlyCleanOnesLoseMarks() {
        BarrierCache x = full(4);
        x.write(1, 1);
        x.pin(2, true);
        x.read(5);
        due("clean and not pinned are 3 and 4", x, "1 2 5 4", "1110", 3);
        x.read(6);
        due("4 is not marked", x, "1 2 5 6", "1111", 0);
    }

    private static void onlyDirtyOnesThatAreNotPinnedLoseMarks() {
        BarrierCache x = full(4);
        x.pin(1, true);
        x.write(2, 2);
        x.pin(2, true);
        x.write(3, 3);
        x.write(4, 4);
        x.read(5);
        due("dirty and not pinned are 3 and 4", x, "1 2 5 4", "1110", 3);
        Check.due("its dirt is written out", Check.writtenFrom(x, 0), "3");
    }

    private static void noneToTake() {
        BarrierCache x = full(2);
        x.read(3);
        x.pin(2, true);
        x.pin(3, true);
        due("both are pinned", x, "3 2", "10", 1);
        x.read(4);
        due("no mark is lost", x, "3 2", "10", 1);
    }
}
