/** The example of README.md answers what its comments say. */
public final class ReadmeTest {
    public static void main(String[] args) {
        BarrierCache cache = new BarrierCache(4, 0);
        Check.due("write 7", cache.write(7, 70), 0);
        Check.due("read 7", cache.read(7), 70);
        Check.due("barrier", cache.barrier(), 1);
        Check.due("write 3", cache.write(3, 30), 0);
        cache.cut(2);
        Check.due("flush", cache.flush(), 1);
        Check.due("disk 7", cache.disk(7), 70);
        Check.due("disk 3", cache.disk(3), 0);
        Check.due("power", cache.power(), true);
        Check.due("read 3", cache.read(3), 0);
        Check.due("force 3", cache.force(3, 31), 1);
        Check.due("written 1", cache.written(1), 3);
        Check.end();
    }
}
