/** What the tests share: comparing answers, naming exceptions, and closing a test with its exit code. */
final class Check {
    interface Call {
        Object answer();
    }

    interface BlockCall {
        Object answer(BarrierCache x, int block);
    }

    private static final int[] NO_BLOCKS = {-1, 256, Integer.MIN_VALUE, Integer.MAX_VALUE};

    private static int wrong = 0;

    private Check() {
    }

    static void due(String call, Object got, Object want) {
        if (!want.equals(got)) {
            wrong++;
            System.out.println(call + " answered " + got + ", due is " + want);
        }
    }

    /** The answer of a call, or throws.Name of what it throws. */
    static Object outcome(Call call) {
        try {
            return call.answer();
        } catch (RuntimeException e) {
            return "throws." + e.getClass().getSimpleName();
        }
    }

    static void dueBadArgument(String what, Call call) {
        due(what, outcome(call), "throws.IllegalArgumentException");
    }

    static void dueBadState(String what, Call call) {
        due(what, outcome(call), "throws.IllegalStateException");
    }

    /** A call for what is no block is refused and changes nothing. */
    static void dueBlocksOnly(String name, BarrierCache x, BlockCall call) {
        String before = state(x);
        for (int block : NO_BLOCKS) {
            dueBadArgument(name + " of " + block, () -> call.answer(x, block));
        }
        due("the state behind a refused " + name, state(x), before);
    }

    /** Without power a call is refused, be it for a block or not, and changes nothing. */
    static void duePowerOnly(String name, BlockCall call) {
        BarrierCache off = withoutPower(1, 0);
        String before = state(off);
        dueBadState(name + " without power", () -> call.answer(off, 0));
        for (int block : NO_BLOCKS) {
            dueBadState(name + " of " + block + " without power", () -> call.answer(off, block));
        }
        due("the state behind a refused " + name, state(off), before);
    }

    /** block, value, epoch, pinned, uses and mark of a slot. */
    static String slot(BarrierCache x, int slot) {
        StringBuilder b = new StringBuilder();
        for (int what = 0; what < 6; what++) {
            b.append(what == 0 ? "" : " ").append(x.slot(slot, what));
        }
        return b.toString();
    }

    /** The blocks in slots 0, 1, .. . */
    static String blocks(BarrierCache x) {
        StringBuilder b = new StringBuilder();
        for (int i = 0; i < x.total(0); i++) {
            b.append(i == 0 ? "" : " ").append(x.slot(i, 0));
        }
        return b.toString();
    }

    /** The blocks that were written to the disk, from number i on. */
    static String writtenFrom(BarrierCache x, int i) {
        StringBuilder b = new StringBuilder();
        for (int k = i; k < x.total(7); k++) {
            b.append(k == i ? "" : " ").append(x.written(k));
        }
        return b.toString();
    }

    /** What a caller can see of the object, in few enough calls that its 512 are not used up. */
    static String state(BarrierCache x) {
        StringBuilder b = new StringBuilder();
        for (int what = 0; what < 12; what++) {
            b.append(x.total(what)).append(' ');
        }
        for (int i = 0; i < x.total(0); i++) {
            b.append('[').append(slot(x, i)).append(']');
        }
        for (int block = 0; block < 10; block++) {
            b.append(' ').append(x.disk(block)).append('@').append(x.find(block));
        }
        b.append(" w ").append(writtenFrom(x, Math.max(0, x.total(7) - 20)));
        return b.toString();
    }

    /** An object with its power off, by a cut at its first write. */
    static BarrierCache withoutPower(int slots, int policy) {
        BarrierCache x = new BarrierCache(slots, policy);
        x.cut(1);
        x.force(0, 1);
        return x;
    }

    static void end() {
        if (wrong != 0) {
            System.out.println(wrong + " answers are not as due");
            System.exit(1);
        }
    }
}
