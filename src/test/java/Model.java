import java.util.ArrayList;
import java.util.Comparator;
import java.util.HashMap;
import java.util.List;
import java.util.Map;

/**
 * The document once more, written for plainness with the Java library and with the failing power as
 * an exception, so that ModelTest can hold the class against it.
 */
final class Model {
    private static final class PowerFails extends RuntimeException {
        private static final long serialVersionUID = 1;
    }

    private static final class Held {
        int slot;
        int block;
        int value;
        Integer dirtyEpoch;
        boolean pinned;
        int got;
        int used;
        int dirtied;
        int uses;
        boolean mark;
    }

    private final int n;
    private final int policy;
    private final Map<Integer, Held> held = new HashMap<>();
    private final Map<Integer, Integer> disk = new HashMap<>();
    private final Map<Integer, Integer> ranks = new HashMap<>();
    private final List<Integer> written = new ArrayList<>();
    private int order, high = -1, low, epoch, hand, clock, hits, misses, taken, reads, cut;
    private boolean off;

    Model(int slots, int policy) {
        n = slots < 1 || slots > 32 ? 8 : slots;
        this.policy = policy < 0 || policy > 3 ? 0 : policy;
    }

    /** What a call answers (booleans as 1 and 0, void as 0), or throws.Name. */
    String call(String name, int a, int b) {
        boolean needsPower = List.of("read", "write", "force", "flush", "barrier", "pin", "drop").contains(name);
        if (needsPower && off) {
            return "throws.IllegalStateException";
        }
        boolean needsBlock = List.of("read", "write", "force", "pin", "drop", "rank", "disk", "find").contains(name);
        if (needsBlock && (a < 0 || a > 255) || isWrongNumber(name, a, b)) {
            return "throws.IllegalArgumentException";
        }
        int before = written.size();
        try {
            switch (name) {
                case "read": return "" + read(a);
                case "write": write(a, b); return "" + (written.size() - before);
                case "force": forced(a, b); return "" + (written.size() - before);
                case "flush": goOut(dirt(epoch + 1)); return "" + (written.size() - before);
                default: return "" + simple(name, a, b);
            }
        } catch (PowerFails e) {
            return "" + (name.equals("read") ? 0 : written.size() - before);
        }
    }

    private boolean isWrongNumber(String name, int a, int b) {
        switch (name) {
            case "order": return a < 0 || a > 3;
            case "limits": return b < 0 || a >= 0 && b > a;
            case "cut": return a < 0;
            case "slot": return a < 0 || a >= n || b < 0 || b > 5;
            case "total": return a < 0 || a > 11;
            default: return false;
        }
    }

    private int simple(String name, int a, int b) {
        switch (name) {
            case "barrier": return ++epoch;
            case "pin": {
                Held h = of(a);
                if (h != null) h.pinned = b != 0;
                return h != null ? 1 : 0;
            }
            case "drop": {
                Held h = of(a);
                if (h != null) held.remove(h.slot);
                return h != null && h.dirtyEpoch != null ? 1 : 0;
            }
            case "order": { int was = order; order = a; return was; }
            case "rank": { Integer was = ranks.put(a, b); return was == null ? 0 : was; }
            case "limits": high = a; low = b; return 0;
            case "cut": cut = a; return 0;
            case "power": {
                boolean was = off;
                if (was) { off = false; hand = 0; cut = 0; }
                return was ? 1 : 0;
            }
            case "disk": return disk.getOrDefault(a, 0);
            case "find": return of(a) == null ? -1 : of(a).slot;
            case "slot": return slot(held.get(a), b);
            case "written": return a < 0 || a >= written.size() || written.size() - a > 200 ? -1 : written.get(a);
            case "total": return total(a);
            default: throw new IllegalStateException(name);
        }
    }

    private static int slot(Held h, int what) {
        if (h == null) return what == 0 || what == 2 ? -1 : 0;
        int[] all = {h.block, h.value, h.dirtyEpoch == null ? -1 : h.dirtyEpoch, h.pinned ? 1 : 0, h.uses, h.mark ? 1 : 0};
        return all[what];
    }

    private int total(int what) {
        int pinned = (int) held.values().stream().filter(h -> h.pinned).count();
        int[] all = {n, dirt(epoch + 1).size(), pinned, epoch, hits, misses, taken, written.size(), reads, hand, off ? 0 : 1, cut};
        return all[what];
    }

    private Held of(int block) {
        return held.values().stream().filter(h -> h.block == block).findAny().orElse(null);
    }

    private void use(Held h) {
        h.used = ++clock;
        h.uses++;
        h.mark = true;
    }

    private void toDisk(int block, int value) {
        if (cut > 0 && --cut == 0) {
            off = true;
            held.clear();
            throw new PowerFails();
        }
        disk.put(block, value);
        written.add(block);
    }

    /** Dirt of epochs below this one, in the order in which it goes out. */
    private List<Held> dirt(int below) {
        Comparator<Held> byBlock = Comparator.comparing(h -> h.block);
        Comparator<Held> byRank = Comparator.comparing(h -> ranks.getOrDefault(h.block, 0));
        List<Comparator<Held>> orders = List.of(byBlock, byBlock.reversed(),
                Comparator.comparing((Held h) -> h.dirtied), byRank.thenComparing(byBlock));
        List<Held> all = new ArrayList<>();
        for (Held h : held.values()) {
            if (h.dirtyEpoch != null && h.dirtyEpoch < below) all.add(h);
        }
        all.sort(Comparator.comparing((Held h) -> h.dirtyEpoch).thenComparing(orders.get(order)));
        return all;
    }

    private void goOut(List<Held> some) {
        for (Held h : some) {
            toDisk(h.block, h.value);
            h.dirtyEpoch = null;
        }
    }

    private void writeOut(Held h) {
        if (h.dirtyEpoch == null) return;
        goOut(dirt(h.dirtyEpoch));
        goOut(List.of(h));
    }

    private int read(int block) {
        Held h = of(block);
        if (h != null) {
            hits++;
            use(h);
            return h.value;
        }
        misses++;
        h = get(block);
        reads++;
        int value = disk.getOrDefault(block, 0);
        if (h != null) h.value = value;
        return value;
    }

    private void write(int block, int value) {
        Held h = of(block);
        if (h != null) {
            hits++;
            if (h.dirtyEpoch != null && h.dirtyEpoch < epoch) writeOut(h);
            use(h);
        } else {
            misses++;
            h = get(block);
        }
        if (h == null) {
            forced(block, value);
        } else {
            if (h.dirtyEpoch == null) h.dirtied = ++clock;
            h.value = value;
            h.dirtyEpoch = epoch;
        }
        List<Held> all = dirt(epoch + 1);
        if (high >= 0 && all.size() > high) goOut(all.subList(0, all.size() - low));
    }

    private void forced(int block, int value) {
        goOut(dirt(epoch));
        toDisk(block, value);
        Held h = of(block);
        if (h != null) {
            h.value = value;
            h.dirtyEpoch = null;
            use(h);
        }
    }

    private Held get(int block) {
        int slot = 0;
        while (held.containsKey(slot)) slot++;
        if (slot >= n) {
            Held old = toTake();
            if (old == null) return null;
            taken++;
            writeOut(old);
            slot = old.slot;
        }
        Held h = new Held();
        h.slot = slot;
        h.block = block;
        h.got = ++clock;
        use(h);
        held.put(slot, h);
        return h;
    }

    private Held toTake() {
        List<Held> some = new ArrayList<>();
        for (int slot = 0; slot < n; slot++) {
            Held h = held.get(slot);
            if (!h.pinned && h.dirtyEpoch == null) some.add(h);
        }
        for (int slot = 0; slot < n && some.stream().allMatch(h -> h.dirtyEpoch != null); slot++) {
            if (!held.get(slot).pinned) some.add(held.get(slot));
        }
        if (some.isEmpty()) return null;
        if (policy == 2) return goRound(some);
        Comparator<Held> byUse = Comparator.comparing(h -> h.used);
        Comparator<Held> byGot = Comparator.comparing(h -> h.got);
        Comparator<Held> byUses = Comparator.comparing(h -> h.uses);
        some.sort(policy == 0 ? byUse : policy == 1 ? byGot : byUses.thenComparing(byUse));
        return some.get(0);
    }

    private Held goRound(List<Held> some) {
        while (true) {
            Held h = held.get(hand);
            hand = (hand + 1) % n;
            if (some.contains(h)) {
                if (!h.mark) return h;
                h.mark = false;
            }
        }
    }
}
