import java.util.ArrayList;
import java.util.List;
import java.util.function.Consumer;

/** The promises one by one: ordinary calls, the edges that the document names, and wrong inputs. */
public final class PromiseTest {
    private static final int NONE = -1;
    private static final int ASK = 0;
    private static final int LIST = 1;
    private static final int GIVE = 2;
    private static final int BACK = 3;

    private static final long EMPTY_LEAF = 5903417615762616944L;
    private static final long EMPTY_ROOT = -6323066845927900339L;

    public static void main(String[] args) {
        newObjectIsEmpty();
        putMergesByStamp();
        putMergesByLength();
        putMergesByBytes();
        putTakesTheHighestBytes();
        getTellsBytes();
        stampTellsStamps();
        hashOfEmptyStores();
        hashOfLeavesAndParents();
        hashTellsEachPartOfAnEntry();
        startSendsAsk();
        startFindsAFullRow();
        stepGetsAsk();
        stepGetsList();
        stepGetsListOfLeaves();
        stepGetsGive();
        stepGetsBack();
        stepOnAnEmptyRow();
        messagesHaveWhatThereWas();
        answersToAFullRowAreLost();
        loseTakesTheOldest();
        runTakesTurns();
        runStopsAtN();
        runStopsAtThousand();
        runMakesStoresAlike();
        messageTellsItsParts();
        rowGoesRoundItsRoom();
        countTellsAll();
        sameComparesEntries();
        clearMakesAllAsAtFirst();
        wrongInputsThrowAndChangeNothing();
        Check.equal("NONE", TreeGossip.NONE, NONE);
        Check.end();
    }

    // Promise 1

    private static void newObjectIsEmpty() {
        TreeGossip x = new TreeGossip();
        checkAsAtFirst("new", x);
        for (int key = 0; key < 256; key += 51) {
            Check.equal("new get", x.get(0, key, 0), NONE);
            Check.equal("new get", x.get(1, key, 0), NONE);
        }
        TreeGossip other = new TreeGossip();
        other.put(0, 0, 1, 1, 8);
        other.start(0);
        checkAsAtFirst("beside another object", x);
    }

    private static void checkAsAtFirst(String when, TreeGossip x) {
        for (int what = 0; what <= 6; what++) {
            Check.equal(when + " count " + what, x.count(what), 0);
        }
        for (int store = 0; store < 2; store++) {
            Check.equal(when + " root", x.hash(store, 0, 0), EMPTY_ROOT);
            Check.equal(when + " leaf", x.hash(store, 3, 0), EMPTY_LEAF);
            Check.equal(when + " step", x.step(store), NONE);
        }
        Check.equal(when + " same", x.same(), true);
    }

    // Promise 2

    private static void putMergesByStamp() {
        TreeGossip x = new TreeGossip();
        Check.equal("the least stamp comes in", x.put(0, 9, Long.MIN_VALUE, -1, 8), true);
        Check.equal("the same entry", x.put(0, 9, Long.MIN_VALUE, -1, 8), false);
        Check.equal("a greater stamp, a shorter value", x.put(0, 9, -1, 0, 0), true);
        Check.equal("0 is greater than -1", x.put(0, 9, 0, 0, 0), true);
        Check.equal("a lesser stamp, a longer value", x.put(0, 9, -1, -1, 8), false);
        Check.equal("the greatest stamp", x.put(0, 9, Long.MAX_VALUE, 0, 0), true);
        Check.equal("the least one after it", x.put(0, 9, Long.MIN_VALUE, -1, 8), false);
        Check.equal("what is there", x.stamp(0, 9), Long.MAX_VALUE);
        Check.equal("the other store has none", x.get(1, 9, 0), NONE);
        Check.equal("the other store takes an older one", x.put(1, 9, Long.MIN_VALUE, 0, 0), true);
    }

    private static void putMergesByLength() {
        TreeGossip x = new TreeGossip();
        Check.equal("no bytes", x.put(1, 255, 5, 7, 0), true);
        Check.equal("no bytes again, of another long", x.put(1, 255, 5, -1, 0), false);
        for (int length = 1; length <= 8; length++) {
            Check.equal("longer, " + length, x.put(1, 255, 5, 0, length), true);
            Check.equal("shorter, " + length, x.put(1, 255, 5, -1, length - 1), false);
            Check.equal("length", x.get(1, 255, 0), length);
        }
    }

    private static void putMergesByBytes() {
        TreeGossip x = new TreeGossip();
        Check.equal("first", x.put(0, 0, 5, 0x7F00FF0000000000L, 3), true);
        Check.equal("lesser later byte", x.put(0, 0, 5, 0x7F00FE0000000000L, 3), false);
        Check.equal("the first unlike byte decides", x.put(0, 0, 5, 0x7F01000000000000L, 3), true);
        Check.equal("lesser first byte", x.put(0, 0, 5, 0x7EFFFF0000000000L, 3), false);
        Check.equal("bytes have no sign", x.put(0, 0, 5, 0x8000000000000000L, 3), true);
        Check.equal("nor here", x.put(0, 0, 5, 0x7FFFFF0000000000L, 3), false);
        Check.equal("eight bytes", x.put(0, 0, 5, 0x0L, 8), true);
        Check.equal("the last byte", x.put(0, 0, 5, 0x1L, 8), true);
        Check.equal("the last byte without sign", x.put(0, 0, 5, 0xFFL, 8), true);
        Check.equal("the last byte lesser", x.put(0, 0, 5, 0x7FL, 8), false);
    }

    private static void putTakesTheHighestBytes() {
        TreeGossip x = new TreeGossip();
        x.put(0, 0, 5, 0x1122334455667788L, 3);
        x.put(1, 0, 5, 0x112233FFFFFFFFFFL, 3);
        Check.equal("lower bytes are no part of it", x.same(), true);
        Check.equal("nor do they make it newer", x.put(0, 0, 5, 0x112233FFFFFFFFFFL, 3), false);
        Check.equal("hashes alike", x.hash(0, 3, 0), x.hash(1, 3, 0));
    }

    // Promises 3 and 4

    private static void getTellsBytes() {
        TreeGossip x = new TreeGossip();
        for (int length = 0; length <= 8; length++) {
            int key = length * 31;
            x.put(1, key, -3, 0x80FF017F00AB10FEL, length);
            int[] bytes = {0x80, 0xFF, 0x01, 0x7F, 0x00, 0xAB, 0x10, 0xFE};
            Check.equal("length", x.get(1, key, 0), length);
            for (int what = 1; what <= 8; what++) {
                Check.equal("byte " + what + " of " + length, x.get(1, key, what), what <= length ? bytes[what - 1] : NONE);
                Check.equal("byte " + what + " without an entry", x.get(0, key, what), NONE);
            }
        }
    }

    private static void stampTellsStamps() {
        TreeGossip x = new TreeGossip();
        Check.equal("no stamp", x.stamp(0, 255), 0L);
        x.put(0, 255, -7, 1, 8);
        x.put(1, 0, Long.MIN_VALUE, 0, 0);
        Check.equal("a stamp", x.stamp(0, 255), -7L);
        Check.equal("the least stamp", x.stamp(1, 0), Long.MIN_VALUE);
        Check.equal("not of the other store", x.stamp(1, 255), 0L);
        Check.equal("not of another key", x.stamp(0, 254), 0L);
    }

    // Promise 5

    private static void hashOfEmptyStores() {
        TreeGossip x = new TreeGossip();
        for (int node = 0; node < 64; node++) {
            Check.equal("empty leaf " + node, x.hash(0, 3, node), EMPTY_LEAF);
        }
        long[] level = {EMPTY_LEAF, EMPTY_LEAF, EMPTY_LEAF, EMPTY_LEAF};
        for (int l = 2; l >= 0; l--) {
            long h = hashOfNumbers(level);
            for (int node = 0; node < 1 << 2 * l; node++) {
                Check.equal("empty level " + l, x.hash(1, l, node), h);
            }
            level = new long[] {h, h, h, h};
        }
        Check.equal("no bytes", Model.hashOf(new byte[0]), EMPTY_LEAF);
    }

    private static long hashOfNumbers(long... numbers) {
        byte[] bytes = new byte[8 * numbers.length];
        for (int i = 0; i < bytes.length; i++) {
            bytes[i] = (byte) (numbers[i / 8] >>> 56 - 8 * (i % 8));
        }
        return Model.hashOf(bytes);
    }

    private static void hashOfLeavesAndParents() {
        TreeGossip x = new TreeGossip();
        x.put(0, 203, 0x0102030405060708L, 0xF1F2F30000000000L, 3);
        x.put(0, 200, -2, 0, 0);
        long leaf = Model.hashOf(new byte[] {
            (byte) 200, -1, -1, -1, -1, -1, -1, -1, -2, 0,
            (byte) 203, 1, 2, 3, 4, 5, 6, 7, 8, 3, (byte) 0xF1, (byte) 0xF2, (byte) 0xF3});
        Check.equal("leaf of 200 to 203", x.hash(0, 3, 50), leaf);
        Check.equal("leaf before", x.hash(0, 3, 49), EMPTY_LEAF);
        Check.equal("leaf behind", x.hash(0, 3, 51), EMPTY_LEAF);
        long second = hashOfNumbers(EMPTY_LEAF, EMPTY_LEAF, leaf, EMPTY_LEAF);
        Check.equal("level 2", x.hash(0, 2, 12), second);
        long empty = x.hash(1, 2, 0);
        long first = hashOfNumbers(second, empty, empty, empty);
        Check.equal("level 1", x.hash(0, 1, 3), first);
        empty = x.hash(1, 1, 0);
        Check.equal("level 0", x.hash(0, 0, 0), hashOfNumbers(empty, empty, empty, first));
        Check.equal("the other store", x.hash(1, 0, 0), EMPTY_ROOT);
    }

    private static void hashTellsEachPartOfAnEntry() {
        List<Consumer<TreeGossip>> puts = List.of(
            x -> { }, x -> x.put(0, 4, 1, 0, 1), x -> x.put(0, 5, 1, 0, 1), x -> x.put(0, 4, 2, 0, 1),
            x -> x.put(0, 4, 1, 0, 2), x -> x.put(0, 4, 1, 0x0100000000000000L, 1), x -> x.put(0, 4, 0, 0, 0));
        List<Long> seen = new ArrayList<>();
        for (Consumer<TreeGossip> put : puts) {
            TreeGossip x = new TreeGossip();
            put.accept(x);
            Check.equal("a hash of its own", seen.contains(x.hash(0, 0, 0)), false);
            seen.add(x.hash(0, 0, 0));
        }
    }

    // Promise 6

    private static void startSendsAsk() {
        TreeGossip x = new TreeGossip();
        Check.equal("start", x.start(0), true);
        Check.equal("to store 1", x.count(4), 1);
        Check.equal("not to store 0", x.count(3), 0);
        checkMessage("ASK", x, 1, 0, ASK, 0, 0);
        Check.equal("start", x.start(1), true);
        Check.equal("to store 0", x.count(3), 1);
        checkMessage("ASK", x, 0, 0, ASK, 0, 0);
    }

    private static void startFindsAFullRow() {
        TreeGossip x = new TreeGossip();
        for (int i = 0; i < 100; i++) {
            Check.equal("start " + i, x.start(1), true);
        }
        Check.equal("no room", x.start(1), false);
        Check.equal("no room", x.start(1), false);
        Check.equal("room in the other row", x.start(0), true);
        Check.equal("messages", x.count(3), 100);
        Check.equal("sent", x.count(0), 103);
        Check.equal("lost", x.count(1), 2);
        x.step(0);
        Check.equal("room again", x.start(1), true);
        Check.equal("and none again", x.start(1), false);
    }

    // Promise 7

    private static void stepGetsAsk() {
        TreeGossip x = new TreeGossip();
        x.start(0);
        Check.equal("alike", x.step(1), ASK);
        Check.equal("no answer to the same hash", x.count(3), 0);
        x.put(0, 0, 1, 1, 8);
        x.start(0);
        Check.equal("unlike", x.step(1), ASK);
        Check.equal("got once", x.count(4), 0);
        Check.equal("one answer", x.count(3), 1);
        checkMessage("LIST", x, 0, 0, LIST, 0, 0);
    }

    private static void stepGetsList() {
        TreeGossip x = new TreeGossip();
        x.put(0, 0, 1, 1, 8);
        x.put(1, 64, 1, 1, 8);
        x.put(0, 95, 1, 1, 8);
        x.put(1, 255, 1, 1, 8);
        x.start(0);
        x.step(1);
        Check.equal("got", x.step(0), LIST);
        Check.equal("three children differ", x.count(4), 3);
        checkMessage("first", x, 1, 0, LIST, 1, 0);
        checkMessage("second", x, 1, 1, LIST, 1, 1);
        checkMessage("third", x, 1, 2, LIST, 1, 3);
        x.step(1);
        Check.equal("got", x.step(1), LIST);
        Check.equal("answers", x.count(3), 3);
        checkMessage("of node 0", x, 0, 0, LIST, 2, 0);
        checkMessage("of node 1", x, 0, 1, LIST, 2, 4);
        checkMessage("of node 1", x, 0, 2, LIST, 2, 5);
    }

    private static void checkMessage(String what, TreeGossip x, int store, int k, int... due) {
        int entries = due.length - 3;
        for (int i = 0; i < 3; i++) {
            Check.equal(what + " part " + i, x.message(store, k, i), due[i]);
        }
        Check.equal(what + " entries", x.message(store, k, 3), entries);
        for (int i = 0; i < 4; i++) {
            Check.equal(what + " key " + i, x.message(store, k, 4 + i), i < entries ? due[3 + i] : NONE);
        }
    }

    /** A row to store 0 with the LIST of node 0 of level 2, as store 1 has it. */
    private static void sendListOfLeaves(TreeGossip x) {
        x.start(0);
        Check.equal("ASK", x.step(1), ASK);
        Check.equal("LIST of level 0", x.step(0), LIST);
        Check.equal("LIST of level 1", x.step(1), LIST);
        checkMessage("LIST of level 2", x, 0, 0, LIST, 2, 0);
    }

    private static void stepGetsListOfLeaves() {
        TreeGossip x = new TreeGossip();
        x.put(0, 0, 1, 1, 8);
        x.put(0, 1, 1, 1, 8);
        x.put(0, 2, 1, 1, 8);
        x.put(0, 3, 1, 1, 0);
        x.put(1, 5, 1, 1, 8);
        x.put(0, 9, 2, 2, 8);
        x.put(1, 9, 2, 2, 8);
        x.put(0, 14, 1, 1, 8);
        x.put(0, 12, 1, 1, 8);
        sendListOfLeaves(x);
        int entriesBefore = x.count(2);
        Check.equal("got", x.step(0), LIST);
        Check.equal("one for each unlike leaf", x.count(4), 3);
        checkMessage("a full leaf", x, 1, 0, GIVE, 3, 0, 0, 1, 2, 3);
        checkMessage("an empty leaf", x, 1, 1, GIVE, 3, 1);
        checkMessage("keys in order", x, 1, 2, GIVE, 3, 3, 12, 14);
        Check.equal("entries sent", x.count(2) - entriesBefore, 6);
    }

    private static TreeGossip withGive() {
        TreeGossip x = new TreeGossip();
        x.put(0, 0, 5, 0x0500000000000000L, 1);
        x.put(0, 1, 5, 0x0500000000000000L, 1);
        x.put(0, 2, 5, 0x0500000000000000L, 1);
        x.put(1, 1, 4, 0x0400000000000000L, 1);
        x.put(1, 2, 6, 0x0600000000000000L, 1);
        x.put(1, 3, 4, 0x0400000000000000L, 1);
        sendListOfLeaves(x);
        x.step(0);
        checkMessage("GIVE", x, 1, 0, GIVE, 3, 0, 0, 1, 2);
        return x;
    }

    private static void stepGetsGive() {
        TreeGossip x = withGive();
        Check.equal("got", x.step(1), GIVE);
        Check.equal("a new entry", x.get(1, 0, 1), 5);
        Check.equal("a newer entry", x.get(1, 1, 1), 5);
        Check.equal("an older entry", x.get(1, 2, 1), 6);
        Check.equal("none of it", x.get(1, 3, 1), 4);
        Check.equal("one answer", x.count(3), 1);
        checkMessage("what it has newer or alone", x, 0, 0, BACK, 3, 0, 2, 3);

        TreeGossip y = new TreeGossip();
        y.put(0, 0, 1, 1, 8);
        sendListOfLeaves(y);
        y.step(0);
        Check.equal("got", y.step(1), GIVE);
        Check.equal("nothing to send back", y.count(3), 0);
        Check.equal("nothing sent", y.count(0), 5);
        Check.equal("alike", y.same(), true);
    }

    private static void stepGetsBack() {
        TreeGossip x = withGive();
        x.step(1);
        x.put(0, 3, 9, 0x0900000000000000L, 1);
        Check.equal("got", x.step(0), BACK);
        Check.equal("merged", x.get(0, 2, 1), 6);
        Check.equal("newer here by now", x.get(0, 3, 1), 9);
        Check.equal("no answer", x.count(4), 0);
        Check.equal("sent", x.count(0), 6);
        Check.equal("the others stay", x.get(0, 0, 1), 5);
    }

    private static void stepOnAnEmptyRow() {
        TreeGossip x = new TreeGossip();
        x.put(0, 0, 1, 1, 1);
        x.start(0);
        Check.equal("no message to store 0", x.step(0), NONE);
        Check.equal("the other row stays", x.count(4), 1);
        Check.equal("nothing sent", x.count(0), 1);
    }

    private static void messagesHaveWhatThereWas() {
        TreeGossip x = new TreeGossip();
        x.put(0, 7, 1, 1, 8);
        x.start(0);
        x.put(1, 7, 1, 1, 8);
        x.put(0, 8, 1, 1, 8);
        x.step(1);
        Check.equal("ASK has the hash of its time", x.count(3), 0);

        TreeGossip y = new TreeGossip();
        y.put(0, 7, 1, 1, 8);
        y.start(0);
        y.step(1);
        y.put(1, 7, 1, 1, 8);
        y.step(0);
        Check.equal("LIST has the hashes of its time", y.count(4), 1);

        TreeGossip z = withGive();
        z.put(0, 0, 7, 0, 8);
        z.put(0, 3, 7, 0, 8);
        checkMessage("GIVE has the keys of its time", z, 1, 0, GIVE, 3, 0, 0, 1, 2);
        z.step(1);
        Check.equal("and the entries", z.stamp(1, 0), 5L);
        z.put(1, 2, 8, 0, 8);
        z.step(0);
        Check.equal("BACK too", z.stamp(0, 2), 6L);
    }

    private static void answersToAFullRowAreLost() {
        TreeGossip x = new TreeGossip();
        x.put(0, 0, 1, 1, 8);
        x.put(0, 1, 1, 1, 8);
        sendListOfLeaves(x);
        for (int i = 0; i < 100; i++) {
            x.start(0);
        }
        int sent = x.count(0);
        int entries = x.count(2);
        Check.equal("got all the same", x.step(0), LIST);
        Check.equal("the row stays full", x.count(4), 100);
        Check.equal("sent", x.count(0), sent + 1);
        Check.equal("lost", x.count(1), 1);
        Check.equal("entries of a lost message were sent", x.count(2), entries + 2);
        checkMessage("the last one stays", x, 1, 99, ASK, 0, 0);
    }

    // Promise 8

    private static void loseTakesTheOldest() {
        TreeGossip x = new TreeGossip();
        Check.equal("none", x.lose(0), NONE);
        x.put(0, 7, 1, 1, 8);
        x.start(0);
        x.step(1);
        x.start(1);
        Check.equal("the oldest", x.lose(0), LIST);
        Check.equal("one is left", x.count(3), 1);
        checkMessage("the younger", x, 0, 0, ASK, 0, 0);
        Check.equal("not lost for want of room", x.count(1), 0);
        Check.equal("no less sent", x.count(0), 3);
        Check.equal("then that", x.lose(0), ASK);
        Check.equal("then none", x.lose(0), NONE);
        Check.equal("no answers", x.count(4), 0);

        TreeGossip y = withGive();
        Check.equal("GIVE", y.lose(1), GIVE);
        Check.equal("not merged", y.get(1, 0, 0), NONE);
        TreeGossip z = withGive();
        z.step(1);
        Check.equal("BACK", z.lose(0), BACK);
        Check.equal("not merged", z.get(0, 3, 0), NONE);
    }

    // Promise 9

    private static void runTakesTurns() {
        TreeGossip x = new TreeGossip();
        x.start(0);
        x.start(0);
        x.start(1);
        x.start(1);
        Check.equal("one", x.run(1), 1);
        Check.equal("store 0 is first", x.count(3), 1);
        Check.equal("store 1 not yet", x.count(4), 2);
        Check.equal("one more", x.run(1), 1);
        Check.equal("store 0 is first in each run", x.count(3), 0);
        Check.equal("store 1 not yet", x.count(4), 2);
        Check.equal("one without any does nothing", x.run(1), 1);
        Check.equal("store 1", x.count(4), 1);

        TreeGossip y = new TreeGossip();
        for (int i = 0; i < 3; i++) {
            y.start(0);
            y.start(1);
        }
        Check.equal("three", y.run(3), 3);
        Check.equal("two of store 0", y.count(3), 1);
        Check.equal("one of store 1", y.count(4), 2);
        Check.equal("the rest", y.run(1000), 3);
    }

    private static void runStopsAtN() {
        TreeGossip x = new TreeGossip();
        Check.equal("no messages", x.run(1000), 0);
        for (int i = 0; i < 100; i++) {
            x.start(0);
            x.start(1);
        }
        Check.equal("n = 0", x.run(0), 0);
        Check.equal("nothing got", x.count(3) + x.count(4), 200);
        Check.equal("n = 199", x.run(199), 199);
        Check.equal("store 0 was first", x.count(4), 1);
        Check.equal("the last", x.run(1000), 1);
    }

    /** Full rows over stores unlike in each leaf bring more than 1000 messages. */
    private static void runStopsAtThousand() {
        TreeGossip x = new TreeGossip();
        Model model = new Model();
        for (int leaf = 0; leaf < 64; leaf++) {
            x.put(leaf % 2, 4 * leaf, leaf, leaf, 8);
            model.put(leaf % 2, 4 * leaf, leaf, leaf, 8);
        }
        for (int i = 0; i < 200; i++) {
            x.start(i % 2);
            model.start(i % 2);
        }
        Check.equal("n = 1000", x.run(1000), 1000);
        model.run(1000);
        Check.equal("more are left", x.count(3) + x.count(4) > 0, true);
        Check.equal("answers were lost", x.count(1) > 0, true);
        checkCounts("after 1000", x, countsOf(model));
        Check.equal("the rest", x.run(1000), model.run(1000));
        checkCounts("after all", x, countsOf(model));
    }

    private static int[] countsOf(Model model) {
        int[] counts = new int[7];
        for (int what = 0; what < counts.length; what++) {
            counts[what] = model.count(what);
        }
        return counts;
    }

    private static void runMakesStoresAlike() {
        TreeGossip x = new TreeGossip();
        for (int key = 0; key < 256; key += 3) {
            x.put(key % 2, key, key % 7, key * 0x0102030405060708L, key % 9);
        }
        for (int key = 0; key < 256; key += 5) {
            x.put(1 - key % 2, key, key % 4, key * 0x0807060504030201L, key % 8);
        }
        x.start(0);
        Check.equal("unlike", x.same(), false);
        x.run(1000);
        Check.equal("no message is left", x.count(3) + x.count(4), 0);
        Check.equal("alike", x.same(), true);
        Check.equal("as many", x.count(5), x.count(6));
        Check.equal("hashes alike", x.hash(0, 0, 0), x.hash(1, 0, 0));
        x.start(1);
        Check.equal("nothing more to tell", x.run(1000), 1);
    }

    // Promise 10

    private static void messageTellsItsParts() {
        TreeGossip x = new TreeGossip();
        x.put(0, 255, 1, 1, 0);
        x.put(0, 252, 1, 1, 8);
        x.start(0);
        x.start(1);
        x.step(1);
        checkMessage("an ASK", x, 0, 0, ASK, 0, 0);
        checkMessage("a LIST behind it", x, 0, 1, LIST, 0, 0);
        x.step(0);
        x.lose(1);
        x.step(0);
        checkMessage("level 1", x, 1, 0, LIST, 1, 3);
        x.step(1);
        checkMessage("level 2", x, 0, 0, LIST, 2, 15);
        x.step(0);
        checkMessage("the last leaf", x, 1, 0, GIVE, 3, 63, 252, 255);
        x.put(1, 254, 1, 1, 8);
        x.step(1);
        checkMessage("what the message had not", x, 0, 0, BACK, 3, 63, 254);
    }

    private static void rowGoesRoundItsRoom() {
        TreeGossip x = new TreeGossip();
        x.put(0, 0, 1, 1, 8);
        for (int i = 0; i < 70; i++) {
            x.start(1);
        }
        for (int i = 0; i < 65; i++) {
            x.lose(0);
        }
        x.start(0);
        x.step(1);
        for (int i = 0; i < 94; i++) {
            Check.equal("room", x.start(1), true);
        }
        Check.equal("full", x.start(1), false);
        checkMessage("before", x, 0, 4, ASK, 0, 0);
        checkMessage("the LIST", x, 0, 5, LIST, 0, 0);
        checkMessage("the last", x, 0, 99, ASK, 0, 0);
        Check.fails("beyond", IndexOutOfBoundsException.class, () -> x.message(0, 100, 0));
    }

    // Promise 11

    private static void countTellsAll() {
        TreeGossip x = withGive();
        checkCounts("after GIVE was sent", x, 5, 0, 3, 0, 1, 3, 3);
        x.step(1);
        checkCounts("after BACK was sent", x, 6, 0, 5, 1, 0, 3, 4);
        x.lose(0);
        checkCounts("after BACK was lost", x, 6, 0, 5, 0, 0, 3, 4);
        x.put(1, 0, 99, 0, 0);
        checkCounts("an entry in the place of another", x, 6, 0, 5, 0, 0, 3, 4);
        x.put(1, 200, 0, 0, 0);
        checkCounts("one more", x, 6, 0, 5, 0, 0, 3, 5);
        for (int i = 0; i < 102; i++) {
            x.start(0);
        }
        checkCounts("a full row", x, 108, 2, 5, 0, 100, 3, 5);
    }

    private static void checkCounts(String when, TreeGossip x, int... due) {
        for (int what = 0; what < due.length; what++) {
            Check.equal("count " + what + " " + when, x.count(what), due[what]);
        }
    }

    // Promise 12

    private static void sameComparesEntries() {
        TreeGossip x = new TreeGossip();
        Check.equal("both empty", x.same(), true);
        x.put(0, 255, 0, 0, 0);
        Check.equal("an entry against none", x.same(), false);
        x.put(1, 254, 0, 0, 0);
        Check.equal("of another key", x.same(), false);
        x.put(1, 255, 0, 0, 0);
        x.put(0, 254, 0, 0, 0);
        Check.equal("the same", x.same(), true);
        x.put(0, 254, 0, 0, 1);
        Check.equal("another length", x.same(), false);
        x.put(1, 254, 0, 0x0100000000000000L, 1);
        Check.equal("another byte", x.same(), false);
        x.put(0, 254, 1, 0x0100000000000000L, 1);
        Check.equal("another stamp", x.same(), false);
        x.put(1, 254, 1, 0x01FFFFFFFFFFFFFFL, 1);
        Check.equal("the same again", x.same(), true);
        x.start(0);
        Check.equal("messages do not matter", x.same(), true);
    }

    // Promise 13

    private static void clearMakesAllAsAtFirst() {
        TreeGossip x = withGive();
        for (int i = 0; i < 101; i++) {
            x.start(0);
        }
        x.start(1);
        x.clear();
        checkAsAtFirst("cleared", x);
        Check.equal("no entry", x.get(0, 0, 0), NONE);
        Check.equal("no bytes", x.get(0, 0, 1), NONE);
        Check.equal("no stamp", x.stamp(1, 2), 0L);
        Check.fails("no message", IndexOutOfBoundsException.class, () -> x.message(1, 0, 0));
        Check.equal("the least entry comes in", x.put(0, 1, Long.MIN_VALUE, 0, 0), true);
        x.put(1, 1, Long.MIN_VALUE, 0, 0);
        Check.equal("nothing is left of the old", x.same(), true);
        for (int i = 0; i < 100; i++) {
            Check.equal("all the room", x.start(0), true);
        }
        Check.equal("and no more", x.start(0), false);
        x.clear();
        x.clear();
        checkAsAtFirst("cleared twice", x);
    }

    // Wrong inputs

    private static void wrongInputsThrowAndChangeNothing() {
        Check.equal("messages to store 0", scene().count(3), 2);
        Check.equal("messages to store 1", scene().count(4), 3);
        for (int store : new int[] {-1, 2, Integer.MIN_VALUE, Integer.MAX_VALUE}) {
            noIndex("put store " + store, x -> x.put(store, 0, 99, 1, 8));
            noIndex("put store and length", x -> x.put(store, 0, 99, 1, 9));
            noIndex("get store " + store, x -> x.get(store, 0, 0));
            noIndex("stamp store " + store, x -> x.stamp(store, 0));
            noIndex("hash store " + store, x -> x.hash(store, 0, 0));
            noIndex("start store " + store, x -> x.start(store));
            noIndex("step store " + store, x -> x.step(store));
            noIndex("lose store " + store, x -> x.lose(store));
            noIndex("message store " + store, x -> x.message(store, 0, 0));
        }
        for (int key : new int[] {-1, 256, Integer.MIN_VALUE, Integer.MAX_VALUE}) {
            noIndex("put key " + key, x -> x.put(0, key, 99, 1, 8));
            noIndex("put key and length", x -> x.put(0, key, 99, 1, -1));
            noIndex("get key " + key, x -> x.get(0, key, 0));
            noIndex("stamp key " + key, x -> x.stamp(1, key));
        }
        wrongWhats();
        wrongNodes();
        for (int length : new int[] {-1, 9, Integer.MIN_VALUE, Integer.MAX_VALUE}) {
            noArgument("put length " + length, x -> x.put(1, 0, 99, 1, length));
            noArgument("put length of an older one", x -> x.put(1, 2, -99, 1, length));
        }
        for (int n : new int[] {-1, 1001, Integer.MIN_VALUE, Integer.MAX_VALUE}) {
            noArgument("run " + n, x -> x.run(n));
        }
    }

    private static void wrongWhats() {
        for (int what : new int[] {-1, 9, Integer.MIN_VALUE, Integer.MAX_VALUE}) {
            noIndex("get what " + what, x -> x.get(0, 0, what));
            noIndex("get what without an entry", x -> x.get(0, 100, what));
        }
        for (int what : new int[] {-1, 8, Integer.MIN_VALUE, Integer.MAX_VALUE}) {
            noIndex("message what " + what, x -> x.message(1, 0, what));
        }
        for (int what : new int[] {-1, 7, Integer.MIN_VALUE, Integer.MAX_VALUE}) {
            noIndex("count " + what, x -> x.count(what));
        }
        for (int k : new int[] {-1, 3, 99, 100, Integer.MIN_VALUE, Integer.MAX_VALUE}) {
            noIndex("message " + k, x -> x.message(1, k, 0));
        }
        noIndex("message to store 0", x -> x.message(0, 2, 0));
        Check.fails("message of an empty row", IndexOutOfBoundsException.class, () -> new TreeGossip().message(0, 0, 0));
    }

    private static void wrongNodes() {
        for (int level : new int[] {-1, 4, 16, 31, Integer.MIN_VALUE, Integer.MAX_VALUE}) {
            noIndex("level " + level, x -> x.hash(0, level, 0));
        }
        for (int level = 0; level < 4; level++) {
            int at = level;
            for (int node : new int[] {-1, 1 << 2 * level, Integer.MIN_VALUE, Integer.MAX_VALUE}) {
                noIndex("level " + level + " node " + node, x -> x.hash(1, at, node));
            }
        }
    }

    private static void noIndex(String what, Consumer<TreeGossip> call) {
        throwsAndChangesNothing(what, IndexOutOfBoundsException.class, call);
    }

    private static void noArgument(String what, Consumer<TreeGossip> call) {
        throwsAndChangesNothing(what, IllegalArgumentException.class, call);
    }

    private static void throwsAndChangesNothing(String what, Class<? extends RuntimeException> want, Consumer<TreeGossip> call) {
        TreeGossip x = scene();
        Check.fails(what, want, () -> call.accept(x));
        Check.equal("what is there after " + what, story(x), story(scene()));
    }

    /** Unlike stores, BACK and LIST to store 0, three times ASK to store 1. */
    private static TreeGossip scene() {
        TreeGossip x = withGive();
        x.start(0);
        x.start(0);
        x.step(1);
        x.step(1);
        x.put(1, 77, 3, 3, 8);
        x.start(0);
        x.start(0);
        return x;
    }

    /** All that the state makes the calls answer, what comes of its messages too. */
    private static List<Object> story(TreeGossip x) {
        List<Object> told = new ArrayList<>();
        tell(x, told);
        told.add(x.run(3));
        tell(x, told);
        told.add(x.run(1000));
        tell(x, told);
        return told;
    }

    private static void tell(TreeGossip x, List<Object> told) {
        for (int what = 0; what < 7; what++) {
            told.add(x.count(what));
        }
        for (int store = 0; store < 2; store++) {
            for (int k = 0; k < x.count(3 + store); k++) {
                for (int what = 0; what < 8; what++) {
                    told.add(x.message(store, k, what));
                }
            }
            told.add(x.hash(store, 0, 0));
            told.add(x.stamp(store, 0));
        }
        told.add(x.same());
    }
}
