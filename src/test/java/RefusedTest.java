/** Terms: a call that throws changes nothing; which calls need the power, and which do not. */
public final class RefusedTest {
    public static void main(String[] args) {
        withPower();
        withoutPower();
        refusedCallsLeaveNoStamp();
        whatNeedsNoPower();
        Check.end();
    }

    private static Object none(Runnable call) {
        call.run();
        return "nothing";
    }

    private static void dueAllBad(String when, BarrierCache x) {
        int[] noBlocks = {-1, 256};
        for (int block : noBlocks) {
            Check.dueBadArgument(when + "rank", () -> x.rank(block, 1));
            Check.dueBadArgument(when + "disk", () -> x.disk(block));
            Check.dueBadArgument(when + "find", () -> x.find(block));
        }
        Check.dueBadArgument(when + "order -1", () -> x.order(-1));
        Check.dueBadArgument(when + "order 4", () -> x.order(4));
        Check.dueBadArgument(when + "limits 0, -1", () -> none(() -> x.limits(0, -1)));
        Check.dueBadArgument(when + "limits 0, 1", () -> none(() -> x.limits(0, 1)));
        Check.dueBadArgument(when + "cut -1", () -> none(() -> x.cut(-1)));
        Check.dueBadArgument(when + "slot -1", () -> x.slot(-1, 0));
        Check.dueBadArgument(when + "slot 2", () -> x.slot(2, 0));
        Check.dueBadArgument(when + "slot 0, -1", () -> x.slot(0, -1));
        Check.dueBadArgument(when + "slot 0, 6", () -> x.slot(0, 6));
        Check.dueBadArgument(when + "total -1", () -> x.total(-1));
        Check.dueBadArgument(when + "total 12", () -> x.total(12));
    }

    /** Two slots, one dirty of an earlier epoch, so that a call that did its work would show. */
    private static BarrierCache busy(int policy) {
        BarrierCache x = new BarrierCache(2, policy);
        x.order(1);
        x.limits(2, 1);
        x.write(1, 10);
        x.barrier();
        x.write(2, 20);
        x.pin(2, true);
        x.cut(5);
        return x;
    }

    private static void withPower() {
        for (int policy = 0; policy < 4; policy++) {
            BarrierCache x = busy(policy);
            String before = Check.state(x);
            int[] noBlocks = {-1, 256};
            for (int block : noBlocks) {
                Check.dueBadArgument("read " + block, () -> x.read(block));
                Check.dueBadArgument("write " + block, () -> x.write(block, 1));
                Check.dueBadArgument("force " + block, () -> x.force(block, 1));
                Check.dueBadArgument("pin " + block, () -> x.pin(block, false));
                Check.dueBadArgument("drop " + block, () -> x.drop(block));
            }
            dueAllBad("", x);
            Check.due("policy " + policy + ": nothing has changed", Check.state(x), before);
            Check.due("policy " + policy + ": nor the order", x.order(0), 1);
            Check.due("policy " + policy + ": nor the limits", x.write(2, 21), 0);
        }
    }

    private static void withoutPower() {
        BarrierCache x = busy(2);
        x.cut(1);
        x.flush();
        String before = Check.state(x);
        Check.dueBadState("read", () -> x.read(1));
        Check.dueBadState("write", () -> x.write(1, 1));
        Check.dueBadState("force", () -> x.force(1, 1));
        Check.dueBadState("flush", () -> x.flush());
        Check.dueBadState("barrier", () -> x.barrier());
        Check.dueBadState("pin", () -> x.pin(1, true));
        Check.dueBadState("pin no more", () -> x.pin(1, false));
        Check.dueBadState("drop", () -> x.drop(1));
        dueAllBad("without power: ", x);
        Check.due("nothing has changed", Check.state(x), before);
        x.power();
        Check.due("nor has the epoch", x.barrier(), 2);
    }

    /** Which slot was used longest ago is the same behind any number of refused calls. */
    private static void refusedCallsLeaveNoStamp() {
        BarrierCache x = new BarrierCache(2, 0);
        x.read(1);
        x.read(2);
        Check.dueBadArgument("read", () -> x.read(-1));
        Check.dueBadArgument("write", () -> x.write(256, 1));
        Check.dueBadArgument("force", () -> x.force(257, 1));
        Check.due("hits and misses", x.total(4) + " " + x.total(5), "0 2");
        x.read(3);
        Check.due("1 was used longest ago", Check.blocks(x), "3 2");
    }

    private static void whatNeedsNoPower() {
        BarrierCache x = Check.withoutPower(2, 0);
        Check.due("order", x.order(3), 0);
        Check.due("rank", x.rank(5, 7), 0);
        Check.due("limits", none(() -> x.limits(0, 0)), "nothing");
        Check.due("cut", none(() -> x.cut(3)), "nothing");
        Check.due("disk", x.disk(0), 0);
        Check.due("find", x.find(0), -1);
        Check.due("slot", x.slot(1, 0), -1);
        Check.due("written", x.written(0), -1);
        Check.due("total", x.total(10), 0);
        Check.due("power", x.power(), true);
        Check.due("what order it is", x.order(0), 3);
        Check.due("what rank", x.rank(5, 0), 7);
        Check.due("which limits", x.write(1, 1), 1);
    }
}
