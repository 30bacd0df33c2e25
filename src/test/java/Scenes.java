import java.util.ArrayList;
import java.util.List;

/** States that tests begin with, and what can be seen of a state. */
final class Scenes {
    static final int NONE = -1;
    static final int ASK = 0;
    static final int LIST = 1;
    static final int GIVE = 2;
    static final int BACK = 3;

    static final long EMPTY_LEAF = 5903417615762616944L;
    static final long EMPTY_ROOT = -6323066845927900339L;

    private Scenes() {
    }

    /** A long whose highest bytes are these; the lower ones are 0. */
    static long value(int... bytes) {
        long number = 0;
        for (int i = 0; i < bytes.length; i++) {
            number |= (long) bytes[i] << 56 - 8 * i;
        }
        return number;
    }

    static boolean put(TreeGossip x, int store, int key, long stamp, int... bytes) {
        return x.put(store, key, stamp, value(bytes), bytes.length);
    }

    /** Store 0 asks; then the stores get a message each by turns, store 1 first, so many in all. */
    static void askAndStep(TreeGossip x, int steps) {
        x.start(0);
        for (int i = 0; i < steps; i++) {
            Check.equal("step " + i + " gets a message", x.step((i + 1) % 2) != NONE, true);
        }
    }

    /** As many ASKs more to a store. */
    static void askTimes(TreeGossip x, int toStore, int times) {
        for (int i = 0; i < times; i++) {
            x.start(1 - toStore);
        }
    }

    /** Leaf 0 unlike, and on the way to store 0: LIST of node 0 of level 2. */
    static TreeGossip withListOfLeaves() {
        TreeGossip x = new TreeGossip();
        put(x, 0, 0, 5, 0x05);
        put(x, 0, 1, 5, 0x05);
        put(x, 0, 2, 5, 0x05);
        put(x, 1, 1, 4, 0x04);
        put(x, 1, 2, 6, 0x06);
        put(x, 1, 3, 4, 0x04);
        askAndStep(x, 3);
        checkMessage("LIST of level 2", x, 0, 0, LIST, 2, 0);
        return x;
    }

    /** On the way to store 1: GIVE of leaf 0, of which key 0 is new to it, 1 newer and 2 older; it alone has 3. */
    static TreeGossip withGive() {
        TreeGossip x = withListOfLeaves();
        x.step(0);
        checkMessage("GIVE", x, 1, 0, GIVE, 3, 0, 0, 1, 2);
        return x;
    }

    /** On the way to store 0: BACK of leaf 0, of which key 2 is newer to it and 3 is new. */
    static TreeGossip withBack() {
        TreeGossip x = withGive();
        x.step(1);
        checkMessage("BACK", x, 0, 0, BACK, 3, 0, 2, 3);
        return x;
    }

    /** Unlike stores; BACK and LIST on the way to store 0, three times ASK to store 1. */
    static TreeGossip withAllKinds() {
        TreeGossip x = withGive();
        x.start(0);
        x.start(0);
        x.step(1);
        x.step(1);
        put(x, 1, 77, 3, 0x03);
        x.start(0);
        x.start(0);
        return x;
    }

    /** A message's kind, level and node, and then the keys of its entries. */
    static void checkMessage(String what, TreeGossip x, int store, int k, int... due) {
        int entries = due.length - 3;
        for (int i = 0; i < 3; i++) {
            Check.equal(what + ", part " + i, x.message(store, k, i), due[i]);
        }
        Check.equal(what + ", entries", x.message(store, k, 3), entries);
        for (int i = 0; i < 4; i++) {
            Check.equal(what + ", key " + i, x.message(store, k, 4 + i), i < entries ? due[3 + i] : NONE);
        }
    }

    static void checkEntry(String what, TreeGossip x, int store, int key, long stamp, int... bytes) {
        Check.equal(what + ", stamp", x.stamp(store, key), stamp);
        Check.equal(what + ", length", x.get(store, key, 0), bytes.length);
        for (int i = 1; i <= 8; i++) {
            Check.equal(what + ", byte " + i, x.get(store, key, i), i <= bytes.length ? bytes[i - 1] : NONE);
        }
    }

    static void checkNoEntry(String what, TreeGossip x, int store, int key) {
        Check.equal(what + ", stamp", x.stamp(store, key), 0L);
        for (int i = 0; i <= 8; i++) {
            Check.equal(what + ", get " + i, x.get(store, key, i), NONE);
        }
    }

    static void checkCounts(String when, TreeGossip x, int... due) {
        for (int what = 0; what < due.length; what++) {
            Check.equal("count " + what + " " + when, x.count(what), due[what]);
        }
    }

    static void checkAsAtFirst(String when, TreeGossip x) {
        checkCounts(when, x, 0, 0, 0, 0, 0, 0, 0);
        for (int store = 0; store < 2; store++) {
            int to = store;
            Check.equal(when + " root", x.hash(store, 0, 0), EMPTY_ROOT);
            Check.equal(when + " first leaf", x.hash(store, 3, 0), EMPTY_LEAF);
            Check.equal(when + " last leaf", x.hash(store, 3, 63), EMPTY_LEAF);
            Check.fails(when + " message", IndexOutOfBoundsException.class, () -> x.message(to, 0, 0));
            checkNoEntry(when + " first key", x, store, 0);
            checkNoEntry(when + " last key", x, store, 255);
        }
        Check.equal(when + " same", x.same(), true);
    }

    /** All that can be seen, and what comes of the messages on their way. */
    static List<Object> story(TreeGossip x) {
        List<Object> told = new ArrayList<>(seen(x));
        told.add(x.run(3));
        told.addAll(seen(x));
        told.add(x.run(1000));
        told.addAll(seen(x));
        return told;
    }

    /** The counts, the messages (of a full row the first and the last ones), the hash over each store. */
    static List<Object> seen(TreeGossip x) {
        List<Object> told = new ArrayList<>();
        for (int what = 0; what < 7; what++) {
            told.add(x.count(what));
        }
        for (int store = 0; store < 2; store++) {
            told.addAll(messagesSeen(x, store));
            told.add(x.hash(store, 0, 0));
            told.add(x.stamp(store, 0));
        }
        told.add(x.same());
        return told;
    }

    private static List<Object> messagesSeen(TreeGossip x, int store) {
        List<Object> told = new ArrayList<>();
        int size = x.count(3 + store);
        for (int k = 0; k < size; k++) {
            if (k < 2 || k >= size - 2) {
                for (int what = 0; what < 8; what++) {
                    told.add(x.message(store, k, what));
                }
            }
        }
        return told;
    }
}
