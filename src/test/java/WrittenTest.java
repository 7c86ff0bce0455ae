/** Promise 17: written. */
public final class WrittenTest {
    public static void main(String[] args) {
        BarrierCache x = new BarrierCache(2, 0);
        Check.due("none yet", x.written(0), BarrierCache.NONE);
        for (int i = 0; i < 200; i++) {
            x.force(255 - i, i);
        }
        Check.due("the first of 200", x.written(0), 255);
        Check.due("the last of 200", x.written(199), 56);
        Check.due("behind it", x.written(200), BarrierCache.NONE);
        x.force(3, 3);
        Check.due("not among the latest 200", x.written(0), BarrierCache.NONE);
        Check.due("the oldest of them", x.written(1), 254);
        Check.due("the newest", x.written(200), 3);
        Check.due("behind it", x.written(201), BarrierCache.NONE);
        for (int i = 0; i < 220; i++) {
            x.force(i, i);
        }
        for (int i = 221; i < 421; i += 3) {
            Check.due("written " + i, x.written(i), i - 201);
        }
        Check.due("written 220", x.written(220), BarrierCache.NONE);
        Check.due("below 0", x.written(-1), BarrierCache.NONE);
        Check.due("below 0", x.written(Integer.MIN_VALUE), BarrierCache.NONE);
        Check.due("far above", x.written(Integer.MAX_VALUE), BarrierCache.NONE);
        x.cut(1);
        x.force(9, 9);
        Check.due("a write that did not happen", x.written(421), BarrierCache.NONE);
        Check.due("without power", x.written(420), 219);
        Check.end();
    }
}
