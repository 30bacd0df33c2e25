import java.util.Random;
import java.util.function.Supplier;

/** Long runs of calls, the same ones each time, on the class and on the model. */
public final class ModelTest {
    private static final int RUNS = 600;
    private static final int CALLS = 512;

    private final TreeGossip x = new TreeGossip();
    private final Model model = new Model();
    private final Random random;
    private final String name;
    /** Runs differ in how many keys they use, and in how often messages are sent and got. */
    private final int keys;
    private final int startsOf100;
    private final int getsOf100;

    private ModelTest(int seed) {
        random = new Random(seed);
        name = "run " + seed;
        keys = new int[] {4, 20, 256}[seed % 3];
        startsOf100 = new int[] {2, 10, 45}[seed / 3 % 3];
        getsOf100 = new int[] {0, 5, 20}[seed / 9 % 3];
    }

    public static void main(String[] args) {
        for (int seed = 0; seed < RUNS; seed++) {
            ModelTest test = new ModelTest(seed);
            for (int call = 0; call < CALLS; call++) {
                test.anyCall();
            }
        }
        Check.end();
    }

    private void anyCall() {
        int dice = random.nextInt(100);
        if (dice < startsOf100) {
            int store = store();
            compare("start " + store, () -> x.start(store), () -> model.start(store));
        } else if (dice < startsOf100 + getsOf100) {
            getMessages();
        } else if (dice < startsOf100 + getsOf100 + 20) {
            ask();
        } else if (dice == 99 && random.nextInt(10) == 0) {
            clearBoth();
        } else {
            putEntry();
        }
    }

    private void getMessages() {
        int store = store();
        int dice = random.nextInt(10);
        if (dice < 6) {
            compare("step " + store, () -> x.step(store), () -> model.step(store));
        } else if (dice == 6) {
            compare("lose " + store, () -> x.lose(store), () -> model.lose(store));
        } else {
            int n = new int[] {-1, 0, 1, 2, 7, 40, 300, 1000, 1001}[random.nextInt(9)];
            compare("run " + n, () -> x.run(n), () -> model.run(n));
        }
    }

    private void putEntry() {
        int store = store();
        int key = nearly(keys);
        long stamp = random.nextInt(5) == 0 ? random.nextLong() : random.nextInt(3) - 1;
        long value = random.nextBoolean() ? random.nextLong() : (random.nextLong() & 0x8100000000000081L);
        int length = nearly(9);
        compare("put " + store + " " + key + " " + stamp + " " + value + " " + length,
            () -> x.put(store, key, stamp, value, length), () -> model.put(store, key, stamp, value, length));
    }

    private void ask() {
        int store = store();
        int key = nearly(keys);
        int what = nearly(9);
        int level = nearly(4);
        int node = nearly(level >= 0 && level < 4 ? 1 << 2 * level : 64);
        int k = nearly(model.rows.get(store & 1).size() + 1);
        switch (random.nextInt(6)) {
            case 0 -> compare("get", () -> x.get(store, key, what), () -> model.get(store, key, what));
            case 1 -> compare("stamp", () -> x.stamp(store, key), () -> model.stamp(store, key));
            case 2 -> compare("hash", () -> x.hash(store, level, node), () -> model.hash(store, level, node));
            case 3 -> compare("message", () -> x.message(store, k, what), () -> model.message(store, k, what));
            case 4 -> compare("count " + what, () -> x.count(what), () -> model.count(what));
            default -> compare("same", x::same, model::same);
        }
    }

    private void clearBoth() {
        x.clear();
        model.clear();
    }

    private int store() {
        return random.nextInt(40) == 0 ? random.nextInt(2) * 3 - 1 : random.nextInt(2);
    }

    /** Mostly from 0 on below the end, now and then just beyond. */
    private int nearly(int end) {
        return random.nextInt(40) == 0 ? (random.nextBoolean() ? -1 : end) : random.nextInt(end);
    }

    private void compare(String call, Supplier<Object> own, Supplier<Object> due) {
        Check.equal(name + ": " + call, answer(own), answer(due));
    }

    private static Object answer(Supplier<Object> call) {
        try {
            return call.get();
        } catch (IndexOutOfBoundsException | IllegalArgumentException e) {
            return e.getClass();
        }
    }
}
