import java.util.Random;

/** All promises: runs of calls from fixed seeds, each answer held against the Model's. */
public final class ModelTest {
    private static final int RUNS = 3000;
    private static final int CALLS = 512;
    private static final String[] CHANGES = {
        "read", "read", "read", "write", "write", "write", "write", "force", "flush", "barrier", "pin", "pin",
        "drop", "order", "rank", "limits", "cut", "power"};
    private static final String[] LOOKS = {"disk", "find", "slot", "slot", "written", "total", "total"};

    public static void main(String[] args) {
        for (int run = 0; run < RUNS; run++) {
            if (!holds(run)) {
                break;
            }
        }
        Check.end();
    }

    private static boolean holds(int run) {
        Random random = new Random(run);
        int slots = random.nextInt(20) == 0 ? random.nextInt(40) - 3 : 1 + random.nextInt(6);
        int policy = random.nextInt(20) == 0 ? random.nextInt(9) - 3 : random.nextInt(4);
        int blocks = 1 + random.nextInt(3 * Math.max(1, slots));
        BarrierCache x = new BarrierCache(slots, policy);
        Model model = new Model(slots, policy);
        for (int i = 0; i < CALLS; i++) {
            String name = name(random, model);
            int a = first(random, name, blocks, model);
            int b = second(random, name, a);
            String want = model.call(name, a, b);
            Object got = Check.outcome(() -> call(x, name, a, b));
            if (!want.equals(got)) {
                Check.due("seed " + run + ", call " + i + ": " + name + "(" + a + ", " + b + ")", got, want);
                return false;
            }
        }
        return true;
    }

    private static int total(Model model, int what) {
        return Integer.parseInt(model.call("total", what, 0));
    }

    /** The power comes back soon, or most of a run would be refused calls. */
    private static String name(Random random, Model model) {
        if (total(model, 10) == 0 && random.nextInt(4) == 0) {
            return "power";
        }
        String[] names = random.nextInt(3) == 0 ? LOOKS : CHANGES;
        return names[random.nextInt(names.length)];
    }

    private static int first(Random random, String name, int blocks, Model model) {
        if (random.nextInt(60) == 0) {
            int[] odd = {-1, 256, 255, Integer.MIN_VALUE, Integer.MAX_VALUE};
            return odd[random.nextInt(odd.length)];
        }
        switch (name) {
            case "order": return random.nextInt(4);
            case "limits": return random.nextInt(8) - 2;
            case "cut": return random.nextInt(4) == 0 ? 0 : random.nextInt(25);
            case "slot": return random.nextInt(total(model, 0));
            case "written": return total(model, 7) - random.nextInt(12);
            case "total": return random.nextInt(12);
            default: return random.nextInt(blocks);
        }
    }

    private static int second(Random random, String name, int a) {
        switch (name) {
            case "rank": return random.nextInt(5) - 2;
            case "limits": return random.nextInt(Math.max(1, Math.min(a, 9) + 1)) - random.nextInt(30) / 29;
            case "pin": return random.nextInt(2);
            case "slot": return random.nextInt(6);
            default: return random.nextInt(1000);
        }
    }

    private static String call(BarrierCache x, String name, int a, int b) {
        switch (name) {
            case "read": return "" + x.read(a);
            case "write": return "" + x.write(a, b);
            case "force": return "" + x.force(a, b);
            case "flush": return "" + x.flush();
            case "barrier": return "" + x.barrier();
            case "pin": return x.pin(a, b != 0) ? "1" : "0";
            case "drop": return x.drop(a) ? "1" : "0";
            case "order": return "" + x.order(a);
            case "rank": return "" + x.rank(a, b);
            case "limits": x.limits(a, b); return "0";
            case "cut": x.cut(a); return "0";
            case "power": return x.power() ? "1" : "0";
            case "disk": return "" + x.disk(a);
            case "find": return "" + x.find(a);
            case "slot": return "" + x.slot(a, b);
            case "written": return "" + x.written(a);
            default: return "" + x.total(a);
        }
    }
}
