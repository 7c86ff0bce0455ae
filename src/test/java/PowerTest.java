/** Promise 13: power. */
public final class PowerTest {
    public static void main(String[] args) {
        whileOn();
        onAgain();
        Check.end();
    }

    private static void whileOn() {
        BarrierCache x = new BarrierCache(2, 2);
        Check.due("a new object's", x.power(), false);
        x.read(1);
        x.write(2, 2);
        x.read(3);
        x.cut(4);
        String before = Check.state(x);
        Check.due("on", x.power(), false);
        Check.due("there is nothing to bring on again", Check.state(x), before);
    }

    private static void onAgain() {
        BarrierCache x = new BarrierCache(3, 2);
        x.read(1);
        x.read(2);
        x.read(3);
        x.read(4);
        Check.due("the hand", x.total(9), 1);
        x.order(1);
        x.barrier();
        x.write(5, 50);
        x.write(6, 60);
        x.read(7);
        x.limits(3, 3);
        x.cut(2);
        x.flush();
        Check.due("the hand without power", x.total(9), 1);
        x.cut(7);
        Check.due("off", x.power(), true);
        Check.due("on", x.total(10), 1);
        Check.due("the epoch stays", x.total(3), 1);
        Check.due("the hand", x.total(9), 0);
        Check.due("no cut", x.total(11), 0);
        Check.due("slots", Check.blocks(x), "-1 -1 -1");
        Check.due("what had gone out stays", x.read(6), 60);
        Check.due("what had not is lost", x.read(5), 0);
        Check.due("order stays", x.order(0), 1);
        Check.due("counts stay", x.total(5), 9);
        Check.due("again", x.power(), false);
        Check.due("barrier", x.barrier(), 2);
    }
}
