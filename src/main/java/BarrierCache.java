/**
 * Slots before a disk: writes stay in them and go out late, in an order that is told, but never
 * before what was written behind an earlier barrier. ../shared/DOC.md has every promise.
 */
public final class BarrierCache {
    public static final int NONE = -1;

    private static final int BLOCKS = 256;
    private static final int LATEST = 200;
    private static final int MOST_SLOTS = 32;
    private static final int USUAL_SLOTS = 8;

    private static final int USED_LONGEST_AGO = 0;
    private static final int GOT_LONGEST_AGO = 1;
    private static final int GOING_ROUND = 2;
    private static final int USED_LEAST_OFTEN = 3;

    private static final int BLOCKS_RISING = 0;
    private static final int BLOCKS_FALLING = 1;
    private static final int DIRTY_LONGEST = 2;
    private static final int RANKS_RISING = 3;

    private final Slot[] slots;
    private final int policy;
    private final Disk disk;
    private final int[] ranks;
    private int orderKind;
    private int high;
    private int low;
    private int epoch;
    private int hand;
    private int stamps;
    private int hits;
    private int misses;
    private int taken;

    public BarrierCache(int slots, int policy) {
        int count = slots >= 1 && slots <= MOST_SLOTS ? slots : USUAL_SLOTS;
        this.slots = new Slot[count];
        for (int i = 0; i < count; i++) {
            this.slots[i] = new Slot(i);
        }
        this.policy = policy >= USED_LONGEST_AGO && policy <= USED_LEAST_OFTEN ? policy : USED_LONGEST_AGO;
        this.disk = new Disk();
        this.ranks = new int[BLOCKS];
        this.orderKind = BLOCKS_RISING;
        this.high = NONE;
    }

    public int read(int block) throws IllegalStateException, IllegalArgumentException {
        mustBeOn();
        mustBeBlock(block);
        Slot own = slotOf(block);
        if (own != null) {
            hits++;
            own.use(nextStamp());
            return own.value;
        }
        misses++;
        Slot got = getSlot(block);
        if (!disk.on) {
            return 0;
        }
        int value = disk.fetch(block);
        if (got != null) {
            got.value = value;
        }
        return value;
    }

    public int write(int block, int value) throws IllegalStateException, IllegalArgumentException {
        mustBeOn();
        mustBeBlock(block);
        int before = disk.writes;
        Slot own = slotOf(block);
        boolean held = own != null ? writeAgain(own, value) : writeNew(block, value);
        if (held) {
            keepLimits();
        }
        return disk.writes - before;
    }

    public int force(int block, int value) throws IllegalStateException, IllegalArgumentException {
        mustBeOn();
        mustBeBlock(block);
        int before = disk.writes;
        writeForced(block, value);
        return disk.writes - before;
    }

    public int flush() throws IllegalStateException {
        mustBeOn();
        int before = disk.writes;
        drain(epoch + 1, 0);
        return disk.writes - before;
    }

    public int barrier() throws IllegalStateException {
        mustBeOn();
        epoch++;
        return epoch;
    }

    public boolean pin(int block, boolean is) throws IllegalStateException, IllegalArgumentException {
        mustBeOn();
        mustBeBlock(block);
        Slot own = slotOf(block);
        if (own == null) {
            return false;
        }
        own.pinned = is;
        return true;
    }

    public boolean drop(int block) throws IllegalStateException, IllegalArgumentException {
        mustBeOn();
        mustBeBlock(block);
        Slot own = slotOf(block);
        if (own == null) {
            return false;
        }
        boolean wasDirty = own.isDirty();
        own.becomeFree();
        return wasDirty;
    }

    public int order(int kind) throws IllegalArgumentException {
        if (kind < BLOCKS_RISING || kind > RANKS_RISING) {
            throw new IllegalArgumentException("no such order");
        }
        int was = orderKind;
        orderKind = kind;
        return was;
    }

    public int rank(int block, int rank) throws IllegalArgumentException {
        mustBeBlock(block);
        int was = ranks[block];
        ranks[block] = rank;
        return was;
    }

    public void limits(int high, int low) throws IllegalArgumentException {
        if (low < 0 || (high >= 0 && low > high)) {
            throw new IllegalArgumentException("low is below 0 or above high");
        }
        this.high = high;
        this.low = low;
    }

    public void cut(int k) throws IllegalArgumentException {
        if (k < 0) {
            throw new IllegalArgumentException("a cut below 0");
        }
        disk.cutLeft = k;
    }

    public boolean power() {
        if (disk.on) {
            return false;
        }
        disk.on = true;
        disk.cutLeft = 0;
        hand = 0;
        return true;
    }

    public int disk(int block) throws IllegalArgumentException {
        mustBeBlock(block);
        return disk.values[block];
    }

    public int find(int block) throws IllegalArgumentException {
        mustBeBlock(block);
        Slot own = slotOf(block);
        return own == null ? NONE : own.number;
    }

    public int slot(int slot, int what) throws IllegalArgumentException {
        if (slot < 0 || slot >= slots.length) {
            throw new IllegalArgumentException("no such slot");
        }
        Slot s = slots[slot];
        switch (what) {
            case 0: return s.block;
            case 1: return s.value;
            case 2: return s.epoch;
            case 3: return s.pinned ? 1 : 0;
            case 4: return s.uses;
            case 5: return s.marked ? 1 : 0;
            default: throw new IllegalArgumentException("a slot has no such number");
        }
    }

    public int written(int i) {
        if (i < 0 || i >= disk.writes || i < disk.writes - LATEST) {
            return NONE;
        }
        return disk.latest[Math.floorMod(i, LATEST)];
    }

    public int total(int what) throws IllegalArgumentException {
        switch (what) {
            case 0: return slots.length;
            case 1: return dirtySlots();
            case 2: return pinnedSlots();
            case 3: return epoch;
            case 4: return hits;
            case 5: return misses;
            case 6: return taken;
            case 7: return disk.writes;
            case 8: return disk.reads;
            case 9: return hand;
            case 10: return disk.on ? 1 : 0;
            case 11: return disk.cutLeft;
            default: throw new IllegalArgumentException("no such total");
        }
    }

    private void mustBeOn() {
        if (!disk.on) {
            throw new IllegalStateException("the power is off");
        }
    }

    private static void mustBeBlock(int block) {
        if (block < 0 || block >= BLOCKS) {
            throw new IllegalArgumentException("no such block");
        }
    }

    private int nextStamp() {
        stamps++;
        return stamps;
    }

    private int dirtySlots() {
        int count = 0;
        for (int i = 0; i < slots.length; i++) {
            if (slots[i].isDirty()) {
                count++;
            }
        }
        return count;
    }

    private int pinnedSlots() {
        int count = 0;
        for (int i = 0; i < slots.length; i++) {
            if (slots[i].pinned) {
                count++;
            }
        }
        return count;
    }

    /** The least slot with this block, or null; NONE asks for the least free one. */
    private Slot slotOf(int block) {
        for (int i = 0; i < slots.length; i++) {
            if (slots[i].block == block) {
                return slots[i];
            }
        }
        return null;
    }

    // Writing. The methods that answer a boolean tell whether the power held.

    private boolean writeAgain(Slot own, int value) {
        hits++;
        if (own.isDirty() && own.epoch < epoch && !writeOut(own)) {
            return false;
        }
        own.use(nextStamp());
        own.becomeDirty(value, epoch, nextStamp());
        return true;
    }

    private boolean writeNew(int block, int value) {
        misses++;
        Slot got = getSlot(block);
        if (got != null) {
            got.becomeDirty(value, epoch, nextStamp());
            return true;
        }
        return disk.on && writeForced(block, value);
    }

    private boolean writeForced(int block, int value) {
        if (!drain(epoch, 0) || !writeBlock(block, value)) {
            return false;
        }
        Slot own = slotOf(block);
        if (own != null) {
            own.value = value;
            own.becomeClean();
            own.use(nextStamp());
        }
        return true;
    }

    private void keepLimits() {
        if (high >= 0 && dirtySlots() > high) {
            drain(epoch + 1, low);
        }
    }

    /** For a dirty slot: what lies behind earlier barriers has to be on the disk before it. */
    private boolean writeOut(Slot s) {
        if (!drain(s.epoch, 0) || !writeBlock(s.block, s.value)) {
            return false;
        }
        s.becomeClean();
        return true;
    }

    /** Writes out dirt of epochs below this one, until none is left or only so many slots are dirty. */
    private boolean drain(int below, int leave) {
        int most = dirtySlots() - leave;
        for (int i = 0; i < most; i++) {
            Slot next = firstDirt(below);
            if (next == null) {
                return true;
            }
            if (!writeBlock(next.block, next.value)) {
                return false;
            }
            next.becomeClean();
        }
        return true;
    }

    private boolean writeBlock(int block, int value) {
        if (disk.store(block, value)) {
            return true;
        }
        for (int i = 0; i < slots.length; i++) {
            slots[i].becomeFree();
        }
        return false;
    }

    private Slot firstDirt(int below) {
        Slot first = null;
        for (int i = 0; i < slots.length; i++) {
            Slot s = slots[i];
            if (s.isDirty() && s.epoch < below && (first == null || goesOutBefore(s, first))) {
                first = s;
            }
        }
        return first;
    }

    private boolean goesOutBefore(Slot a, Slot b) {
        if (a.epoch != b.epoch) {
            return a.epoch < b.epoch;
        }
        switch (orderKind) {
            case BLOCKS_FALLING:
                return a.block > b.block;
            case DIRTY_LONGEST:
                return a.dirtyAt < b.dirtyAt;
            case RANKS_RISING:
                int rankA = ranks[a.block];
                int rankB = ranks[b.block];
                return rankA != rankB ? rankA < rankB : a.block < b.block;
            default:
                return a.block < b.block;
        }
    }

    // Getting a slot.

    /** A slot that has this block now, clean; null if there is none to get, or if the power failed. */
    private Slot getSlot(int block) {
        Slot s = slotOf(NONE);
        if (s == null) {
            s = slotToTake();
            if (s == null) {
                return null;
            }
            taken++;
            if (s.isDirty() && !writeOut(s)) {
                return null;
            }
        }
        s.moveIn(block, nextStamp());
        return s;
    }

    private Slot slotToTake() {
        Slot clean = slotToTakeOf(false);
        return clean != null ? clean : slotToTakeOf(true);
    }

    private Slot slotToTakeOf(boolean dirty) {
        return policy == GOING_ROUND ? goRound(dirty) : leastWorthKeeping(dirty);
    }

    private Slot leastWorthKeeping(boolean dirty) {
        Slot least = null;
        for (int i = 0; i < slots.length; i++) {
            Slot s = slots[i];
            if (s.mayBeTaken(dirty) && (least == null || isTakenBefore(s, least))) {
                least = s;
            }
        }
        return least;
    }

    private boolean isTakenBefore(Slot a, Slot b) {
        if (policy == GOT_LONGEST_AGO) {
            return a.gotAt < b.gotAt;
        }
        if (policy == USED_LEAST_OFTEN && a.uses != b.uses) {
            return a.uses < b.uses;
        }
        return a.usedAt < b.usedAt;
    }

    /** Two rounds are enough: the first takes every mark away. */
    private Slot goRound(boolean dirty) {
        int at = hand;
        for (int step = 0; step < 2 * slots.length; step++) {
            Slot s = slots[at];
            at = at + 1 < slots.length ? at + 1 : 0;
            if (s.mayBeTaken(dirty)) {
                if (!s.marked) {
                    hand = at;
                    return s;
                }
                s.marked = false;
            }
        }
        return null;
    }

    private static final class Slot {
        private final int number;
        private int block;
        private int value;
        /** NONE while it is clean or free. */
        private int epoch;
        private boolean pinned;
        private int gotAt;
        private int usedAt;
        private int dirtyAt;
        private int uses;
        private boolean marked;

        private Slot(int number) {
            this.number = number;
            this.block = NONE;
            this.epoch = NONE;
        }

        private boolean isDirty() {
            return epoch != NONE;
        }

        private boolean mayBeTaken(boolean dirty) {
            return !pinned && isDirty() == dirty;
        }

        private void use(int stamp) {
            usedAt = stamp;
            uses++;
            marked = true;
        }

        private void moveIn(int newBlock, int stamp) {
            becomeFree();
            block = newBlock;
            gotAt = stamp;
            use(stamp);
        }

        private void becomeDirty(int newValue, int newEpoch, int stamp) {
            if (!isDirty()) {
                dirtyAt = stamp;
            }
            value = newValue;
            epoch = newEpoch;
        }

        private void becomeClean() {
            epoch = NONE;
        }

        private void becomeFree() {
            block = NONE;
            value = 0;
            epoch = NONE;
            pinned = false;
            uses = 0;
            marked = false;
        }
    }

    private static final class Disk {
        private final int[] values;
        /** The blocks of the latest writes, number i at i modulo its length. */
        private final int[] latest;
        private int writes;
        private int reads;
        /** 0 for no cut. */
        private int cutLeft;
        private boolean on;

        private Disk() {
            this.values = new int[BLOCKS];
            this.latest = new int[LATEST];
            this.on = true;
        }

        private int fetch(int block) {
            reads++;
            return values[block];
        }

        /** Whether the write happened; the one that the cut hits turns the power off instead. */
        private boolean store(int block, int value) {
            if (cutLeft > 0) {
                cutLeft--;
                if (cutLeft == 0) {
                    on = false;
                    return false;
                }
            }
            values[block] = value;
            latest[Math.floorMod(writes, LATEST)] = block;
            writes++;
            return true;
        }
    }
}
