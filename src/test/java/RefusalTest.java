/** Calls that throw: the last lines of the document's terms, and of promises 2 to 11. */
public final class RefusalTest {
    private static final Class<IndexOutOfBoundsException> INDEX = IndexOutOfBoundsException.class;
    private static final Class<IllegalArgumentException> ARGUMENT = IllegalArgumentException.class;
    private static final int[] FAR = {Integer.MIN_VALUE, -256, -100, -2, 300, 1 << 16, 1 << 30, Integer.MAX_VALUE};

    public static void main(String[] args) {
        Sentences.test(RefusalTest.class);
    }

    /** A method of the face by the one argument that a test is about. */
    private interface Call {
        void of(TreeGossip x, int argument);
    }

    /** The first and the last argument are taken; those just before and just behind are refused. */
    private static void taken(String what, int first, int last, Class<? extends RuntimeException> otherwise, Call call) {
        for (int argument : new int[] {first, last}) {
            call.of(Scenes.withAllKinds(), argument);
        }
        refused(what, otherwise, call, first - 1, last + 1);
    }

    private static void refused(String what, Class<? extends RuntimeException> due, Call call, int... arguments) {
        for (int argument : arguments) {
            TreeGossip x = Scenes.withAllKinds();
            Check.fails(what + " " + argument, due, () -> call.of(x, argument));
            Check.equal("all as before " + what + " " + argument, Scenes.story(x), Scenes.story(Scenes.withAllKinds()));
        }
    }

    // Promise by promise: just inside, just outside

    @About(promise = 2, sentence = "IndexOutOfBoundsException;")
    static void putNeedsAStoreAndAKey() {
        taken("store", 0, 1, INDEX, (x, store) -> x.put(store, 0, 99, 1, 8));
        taken("key", 0, 255, INDEX, (x, key) -> x.put(0, key, 99, 1, 8));
    }

    @About(promise = 2, sentence = "IllegalArgumentException: not so many.")
    static void putNeedsALengthOfZeroToEight() {
        taken("length", 0, 8, ARGUMENT, (x, length) -> x.put(0, 0, 99, 1, length));
        refused("length", ARGUMENT, (x, length) -> x.put(1, 255, 99, 1, length), FAR);
    }

    @About(promise = 2, sentence = "IllegalArgumentException: not so many.")
    static void putOfAnOlderEntryNeedsALengthToo() {
        taken("length", 0, 8, ARGUMENT, (x, length) -> x.put(1, 2, Long.MIN_VALUE, 1, length));
    }

    @About(promise = 3, sentence = "IndexOutOfBoundsException.")
    static void getNeedsAStoreAKeyAndAWhat() {
        taken("store", 0, 1, INDEX, (x, store) -> x.get(store, 0, 0));
        taken("key", 0, 255, INDEX, (x, key) -> x.get(0, key, 0));
        taken("what of an entry", 0, 8, INDEX, (x, what) -> x.get(0, 0, what));
        taken("what without an entry", 0, 8, INDEX, (x, what) -> x.get(0, 200, what));
    }

    @About(promise = 4, sentence = "IndexOutOfBoundsException.")
    static void stampNeedsAStoreAndAKey() {
        taken("store", 0, 1, INDEX, (x, store) -> x.stamp(store, 0));
        taken("key", 0, 255, INDEX, (x, key) -> x.stamp(1, key));
    }

    @About(promise = 5, sentence = "IndexOutOfBoundsException.")
    static void hashNeedsAStoreALevelAndANode() {
        taken("store", 0, 1, INDEX, (x, store) -> x.hash(store, 0, 0));
        taken("level", 0, 3, INDEX, (x, level) -> x.hash(0, level, 0));
        int[] last = {0, 3, 15, 63};
        for (int i = 0; i < 4; i++) {
            int level = i;
            taken("node of level " + level, 0, last[level], INDEX, (x, node) -> x.hash(1, level, node));
        }
    }

    @About(promise = 6, sentence = "IndexOutOfBoundsException.")
    static void startNeedsAStore() {
        taken("store", 0, 1, INDEX, (x, store) -> x.start(store));
    }

    @About(promise = 7, sentence = "IndexOutOfBoundsException.")
    static void stepNeedsAStore() {
        taken("store", 0, 1, INDEX, (x, store) -> x.step(store));
    }

    @About(promise = 8, sentence = "IndexOutOfBoundsException.")
    static void loseNeedsAStore() {
        taken("store", 0, 1, INDEX, (x, store) -> x.lose(store));
    }

    @About(promise = 9, sentence = "IllegalArgumentException: n is not 0 .. 1000.")
    static void runNeedsAnNOfZeroToAThousand() {
        taken("n", 0, 1000, ARGUMENT, (x, n) -> x.run(n));
        refused("n", ARGUMENT, (x, n) -> x.run(n), Integer.MIN_VALUE, -1000, 1 << 16, Integer.MAX_VALUE);
    }

    @About(promise = 9, sentence = "IllegalArgumentException: n is not 0 .. 1000.")
    static void runWithoutMessagesNeedsItsNToo() {
        TreeGossip x = new TreeGossip();
        Check.fails("n = -1", ARGUMENT, () -> x.run(-1));
        Check.fails("n = 1001", ARGUMENT, () -> x.run(1001));
        Scenes.checkAsAtFirst("after them", x);
    }

    @About(promise = 10, sentence = "IndexOutOfBoundsException.")
    static void messageNeedsAStoreAMessageAndAWhat() {
        taken("store", 0, 1, INDEX, (x, store) -> x.message(store, 0, 0));
        taken("k to store 0", 0, 1, INDEX, (x, k) -> x.message(0, k, 0));
        taken("k to store 1", 0, 2, INDEX, (x, k) -> x.message(1, k, 0));
        taken("what of BACK", 0, 7, INDEX, (x, what) -> x.message(0, 0, what));
        taken("what of ASK", 0, 7, INDEX, (x, what) -> x.message(1, 0, what));
    }

    @About(promise = 11, sentence = "IndexOutOfBoundsException.")
    static void countNeedsAWhat() {
        taken("what", 0, 6, INDEX, (x, what) -> x.count(what));
    }

    // Thing by thing: far outside

    @About(promise = 7, sentence = "IndexOutOfBoundsException: there is no such store,")
    static void thereIsNoSuchStore() {
        refused("put", INDEX, (x, store) -> x.put(store, 0, 99, 1, 8), FAR);
        refused("get", INDEX, (x, store) -> x.get(store, 0, 0), FAR);
        refused("stamp", INDEX, (x, store) -> x.stamp(store, 0), FAR);
        refused("hash", INDEX, (x, store) -> x.hash(store, 0, 0), FAR);
        refused("start", INDEX, (x, store) -> x.start(store), FAR);
        refused("step", INDEX, (x, store) -> x.step(store), FAR);
        refused("lose", INDEX, (x, store) -> x.lose(store), FAR);
        refused("message", INDEX, (x, store) -> x.message(store, 0, 0), FAR);
    }

    @About(promise = 3, sentence = "IndexOutOfBoundsException: there is no such store, key,")
    static void thereIsNoSuchKey() {
        refused("put", INDEX, (x, key) -> x.put(0, key, 99, 1, 8), FAR);
        refused("get", INDEX, (x, key) -> x.get(0, key, 0), FAR);
        refused("stamp", INDEX, (x, key) -> x.stamp(1, key), FAR);
    }

    @About(promise = 5, sentence = "there is no such store, key, level, node,")
    static void thereIsNoSuchLevel() {
        // Shifts by 32 and 64 would come round to level 0.
        refused("hash", INDEX, (x, level) -> x.hash(0, level, 0), 5, 16, 31, 32, 33, 64, -16, -31, -32);
        refused("hash", INDEX, (x, level) -> x.hash(0, level, 0), FAR);
    }

    @About(promise = 5, sentence = "there is no such store, key, level, node,")
    static void thereIsNoSuchNode() {
        for (int i = 0; i < 4; i++) {
            int level = i;
            refused("level " + level, INDEX, (x, node) -> x.hash(1, level, node), FAR);
        }
        refused("a node of level 2", INDEX, (x, node) -> x.hash(0, 1, node), 15);
        refused("a node of level 3", INDEX, (x, node) -> x.hash(0, 2, node), 63);
    }

    @About(promise = 10, sentence = "there is no such store, key, level, node, message or what.")
    static void thereIsNoSuchMessage() {
        refused("k", INDEX, (x, k) -> x.message(1, k, 0), FAR);
        refused("k in the room", INDEX, (x, k) -> x.message(1, k, 0), 4, 99, 100);
        refused("k and what", INDEX, (x, k) -> x.message(1, k, 8), 3, -1);
        TreeGossip x = new TreeGossip();
        Check.fails("of an empty row", INDEX, () -> x.message(0, 0, 0));
        Check.fails("of the other one", INDEX, () -> x.message(1, 0, 0));
    }

    @About(promise = 11, sentence = "there is no such store, key, level, node, message or what.")
    static void thereIsNoSuchWhat() {
        refused("get", INDEX, (x, what) -> x.get(0, 0, what), FAR);
        refused("message", INDEX, (x, what) -> x.message(1, 0, what), FAR);
        refused("count", INDEX, (x, what) -> x.count(what), FAR);
    }

    // Of all

    @About(promise = 2, sentence = "Methods throw what their comments name, the one named first when several would do.")
    static void theExceptionNamedFirstIsThrown() {
        for (int length : new int[] {-1, 9, Integer.MIN_VALUE, Integer.MAX_VALUE}) {
            refused("store, with length " + length, INDEX, (x, store) -> x.put(store, 0, 99, 1, length), -1, 2);
            refused("key, with length " + length, INDEX, (x, key) -> x.put(0, key, 99, 1, length), -1, 256);
        }
    }

    @About(promise = 6, sentence = "A call that throws changes nothing.")
    static void aRefusedCallLeavesFullRowsAsTheyWere() {
        TreeGossip x = fullRows();
        Check.fails("start", INDEX, () -> x.start(2));
        Check.fails("step", INDEX, () -> x.step(-1));
        Check.fails("lose", INDEX, () -> x.lose(2));
        Check.fails("run", ARGUMENT, () -> x.run(1001));
        Check.fails("message", INDEX, () -> x.message(0, 100, 0));
        Check.equal("all as before", Scenes.seen(x), Scenes.seen(fullRows()));
    }

    private static TreeGossip fullRows() {
        TreeGossip x = new TreeGossip();
        Scenes.put(x, 0, 7, 1, 0x21);
        Scenes.askTimes(x, 0, 100);
        Scenes.askTimes(x, 1, 100);
        return x;
    }

    @About(promise = 2, sentence = "A call that throws changes nothing.")
    static void aRefusedPutLeavesTheEntryAsItWas() {
        TreeGossip x = new TreeGossip();
        Scenes.put(x, 0, 7, 1, 0x21);
        long hash = x.hash(0, 3, 1);
        Check.fails("put", ARGUMENT, () -> x.put(0, 7, 2, -1, 9));
        Check.fails("put", ARGUMENT, () -> x.put(0, 7, 2, -1, -1));
        Check.fails("put where there is none", ARGUMENT, () -> x.put(0, 6, 2, -1, 9));
        Scenes.checkEntry("as it was", x, 0, 7, 1, 0x21);
        Scenes.checkNoEntry("none still", x, 0, 6);
        Check.equal("its hash", x.hash(0, 3, 1), hash);
        Scenes.checkCounts("as they were", x, 0, 0, 0, 0, 0, 1, 0);
    }
}
