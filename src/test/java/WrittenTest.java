/** Promise 17: written. */
public final class WrittenTest {
    public static void main(String[] args) {
        BarrierCache x = new BarrierCache(2, 0);
        Check.due("none yet", x.written(0), BarrierCache.NONE);
        for (int i = 0; i < 200; i++) {
            x.force(255 - i, i);
        }
        Check.due("the first of 200", x.written(0), 255);
        Check.due("the last of 200", x.written(199), 56);
        Check.due("behind it", x.written(200), BarrierCache.NONE);
        x.force(3, 3);
        Check.due("not among the latest 200", x.written(0), BarrierCache.NONE);
        Check.due("the oldest of them", x.written(1), 254);
        Check.due("the newest", x.written(200), 3);
        Check.due("behind it", x.written(201), BarrierCache.NONE);
        for (int i = 0; i < 220; i++) {
            x.force(i, i);
        }
        for (int i = 221; i < 421; i += 3) {
            Check.due("written " + i, x.written(i), i - 201);
        }
        Check.due("written 220", x.written(220), BarrierCache.NONE);
        Check.due("below 0", x.written(-1), BarrierCache.NONE);
        Check.due("below 0", x.written(Integer.MIN_VALUE), BarrierCache.NONE);
        Check.due("far above", x.written(Integer.MAX_VALUE), BarrierCache.NONE);
        x.cut(1);
        x.force(9, 9);
        Check.due("a write that did not happen", x.written(421), BarrierCache.NONE);
        Check.due("without power", x.written(420), 219);
        eachWriteHasANumber();
        aWriteThatFailsHasNone();
        manyInOneCall();
        Check.end();
    }

    private static void eachWriteHasANumber() {
        BarrierCache x = new BarrierCache(2, 0);
        x.write(255, 1);
        Check.due("a write to a slot has none", x.written(0), BarrierCache.NONE);
        x.flush();
        Check.due("number 0", x.written(0), 255);
        Check.due("number 1 is none yet", x.written(1), BarrierCache.NONE);
        x.force(0, 1);
        x.force(0, 1);
        Check.due("the same block, twice", Check.writtenFrom(x, 0), "255 0 0");
        Check.due("number 3 is none yet", x.written(3), BarrierCache.NONE);
    }

    private static void aWriteThatFailsHasNone() {
        BarrierCache x = new BarrierCache(2, 0);
        x.force(1, 1);
        x.cut(1);
        x.force(2, 2);
        Check.due("number 1 is none", x.written(1), BarrierCache.NONE);
        x.power();
        x.force(3, 3);
        Check.due("the next has its number", Check.writtenFrom(x, 0), "1 3");
    }

    /** A call's writes go over the end of the latest 200. */
    private static void manyInOneCall() {
        BarrierCache x = new BarrierCache(32, 0);
        for (int i = 0; i < 180; i++) {
            x.force(255, i);
        }
        for (int i = 0; i < 32; i++) {
            x.write(i, i);
        }
        Check.due("flush", x.flush(), 32);
        Check.due("number 11", x.written(11), BarrierCache.NONE);
        Check.due("number 12", x.written(12), 255);
        Check.due("number 179", x.written(179), 255);
        for (int i = 0; i < 32; i++) {
            Check.due("number " + (180 + i), x.written(180 + i), i);
        }
        Check.due("number 212", x.written(212), BarrierCache.NONE);
    }
}
