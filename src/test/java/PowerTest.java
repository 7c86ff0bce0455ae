/** Promise 13: power. */
public final class PowerTest {
    public static void main(String[] args) {
        whileOn();
        onAgain();
        emptyOnes();
        failsAgain();
        countsStay();
        Check.end();
    }

    private static void whileOn() {
        BarrierCache x = new BarrierCache(2, 2);
        Check.due("a new object's", x.power(), false);
        x.read(1);
        x.write(2, 2);
        x.read(3);
        x.cut(4);
        String before = Check.state(x);
        Check.due("on", x.power(), false);
        Check.due("there is nothing to bring on again", Check.state(x), before);
    }

    private static void emptyOnes() {
        BarrierCache x = Check.withoutPower(1, 2);
        Check.due("off", x.power(), true);
        Check.due("on", x.power(), false);
        Check.due("slots", Check.blocks(x), "-1");
        Check.due("a read", x.read(0), 0);
        Check.due("a write", x.write(0, 5), 0);
        Check.due("a flush", x.flush(), 1);
        Check.due("disk", x.disk(0), 5);
    }

    private static void failsAgain() {
        BarrierCache x = new BarrierCache(2, 2);
        for (int i = 1; i <= 5; i++) {
            x.barrier();
            x.write(1, i);
            x.cut(1);
            Check.due("flush " + i, x.flush(), 0);
            Check.due("off " + i, x.total(10), 0);
            Check.due("power " + i, x.power(), true);
            Check.due("the epoch " + i, x.total(3), i);
            Check.due("flush without dirt " + i, x.flush(), 0);
        }
        x.read(1);
        x.read(2);
        x.read(3);
        Check.due("from slot 0 on", x.find(3), 0);
        Check.due("the disk has got nothing", x.disk(1), 0);
    }

    private static void countsStay() {
        BarrierCache x = new BarrierCache(1, 0);
        x.read(1);
        x.read(1);
        x.write(2, 20);
        x.force(3, 30);
        x.cut(1);
        x.flush();
        for (int i = 0; i < 2; i++) {
            Check.due("hits", x.total(4), 1);
            Check.due("misses", x.total(5), 2);
            Check.due("slots taken", x.total(6), 1);
            Check.due("writes", x.total(7), 1);
            Check.due("reads", x.total(8), 1);
            Check.due("written", x.written(0), 3);
            x.power();
        }
    }

    private static void onAgain() {
        BarrierCache x = new BarrierCache(3, 2);
        x.read(1);
        x.read(2);
        x.read(3);
        x.read(4);
        Check.due("the hand", x.total(9), 1);
        x.order(1);
        x.barrier();
        x.write(5, 50);
        x.write(6, 60);
        x.read(7);
        x.limits(3, 3);
        x.cut(2);
        x.flush();
        Check.due("the hand without power", x.total(9), 1);
        x.cut(7);
        Check.due("off", x.power(), true);
        Check.due("on", x.total(10), 1);
        Check.due("the epoch stays", x.total(3), 1);
        Check.due("the hand", x.total(9), 0);
        Check.due("no cut", x.total(11), 0);
        Check.due("slots", Check.blocks(x), "-1 -1 -1");
        Check.due("what had gone out stays", x.read(6), 60);
        Check.due("what had not is lost", x.read(5), 0);
        Check.due("order stays", x.order(0), 1);
        Check.due("again", x.power(), false);
        Check.due("barrier", x.barrier(), 2);
    }
}
