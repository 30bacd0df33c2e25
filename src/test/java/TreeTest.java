import java.io.ByteArrayOutputStream;
import java.math.BigInteger;

/** The tree and its hashes: promise 5. */
public final class TreeTest {
    private static final int[] NODES = {1, 4, 16, 64};
    private static final BigInteger BEGIN = new BigInteger("51ED270B9F8A3C67", 16);
    private static final BigInteger FACTOR = new BigInteger("9E3779B97F4A7C15", 16);
    private static final BigInteger END_OF_LONGS = BigInteger.TWO.pow(64);

    public static void main(String[] args) {
        Sentences.test(TreeTest.class);
    }

    // Levels and nodes

    @About(promise = 5, sentence = "LEVEL 0 has one NODE, for all keys; level 1 has 4, level 2 16, level 3 64 (LEAVES):")
    static void eachLevelHasSoManyNodes() {
        TreeGossip x = unlikeInEachLeaf();
        for (int level = 0; level < 4; level++) {
            int at = level;
            Check.equal("first of level " + level, x.hash(0, level, 0) != x.hash(1, level, 0), true);
            int last = NODES[level] - 1;
            Check.equal("last of level " + level, x.hash(0, level, last) != x.hash(1, level, last), true);
            Check.fails("one more at level " + level, IndexOutOfBoundsException.class, () -> x.hash(0, at, NODES[at]));
        }
    }

    @About(promise = 5, sentence = "LEVEL 0 has one NODE, for all keys;")
    static void theOneNodeOfLevelZeroIsForAllKeys() {
        TreeGossip x = new TreeGossip();
        long before = Scenes.EMPTY_ROOT;
        for (int key = 0; key < 256; key++) {
            x.put(1, key, 1, 0, 0);
            long now = x.hash(1, 0, 0);
            Check.equal("another hash with key " + key, now != before, true);
            before = now;
        }
    }

    @About(promise = 5, sentence = "node i of a level is for the keys from 256 i / n on, n being how many the level has, 256 / n of them.")
    static void aNodeIsForItsFirstToItsLastKey() {
        for (int level = 0; level < 4; level++) {
            int width = 256 / NODES[level];
            for (int node = 0; node < NODES[level]; node++) {
                checkNodeOf(node * width, level, node);
                checkNodeOf((node + 1) * width - 1, level, node);
            }
        }
    }

    /** An entry of a key changes the hash of one node of a level. */
    private static void checkNodeOf(int key, int level, int node) {
        TreeGossip x = new TreeGossip();
        x.put(0, key, 1, 1, 8);
        for (int i = 0; i < NODES[level]; i++) {
            boolean changed = x.hash(0, level, i) != x.hash(1, level, i);
            Check.equal("key " + key + " in node " + i + " of level " + level, changed, i == node);
        }
    }

    @About(promise = 5, sentence = "Its CHILDREN (not of leaves) are nodes 4 i to 4 i + 3 of the next level.")
    static void aNodeHasFourChildrenFromFourTimesItselfOn() {
        TreeGossip x = unlikeInEachLeaf();
        for (int level = 0; level < 3; level++) {
            for (int node = 0; node < NODES[level]; node++) {
                Check.equal("node " + node + " of level " + level, x.hash(0, level, node), hashOfChildren(x, 0, level, node));
            }
        }
    }

    @About(promise = 5, sentence = "Its CHILDREN (not of leaves) are nodes 4 i to 4 i + 3 of the next level.")
    static void leavesHaveNoChildren() {
        TreeGossip x = unlikeInEachLeaf();
        Check.fails("a level below the leaves", IndexOutOfBoundsException.class, () -> x.hash(0, 4, 0));
        Check.equal("a leaf's hash is of its entries", x.hash(0, 3, 0), hashOf(entry(0, 1, 0xA0)));
    }

    /** Store 0 has an entry in each leaf, with bytes of its own. */
    private static TreeGossip unlikeInEachLeaf() {
        TreeGossip x = new TreeGossip();
        for (int leaf = 0; leaf < 64; leaf++) {
            Scenes.put(x, 0, 4 * leaf, 1, 0xA0 + leaf);
        }
        return x;
    }

    // The hash of a row of bytes

    @About(promise = 5, sentence = "THE HASH of a row of bytes: h is 51ED270B9F8A3C67 (all hexadecimal);")
    static void theHashOfNoBytesIsTheBeginning() {
        TreeGossip x = new TreeGossip();
        long due = 0x51ED270B9F8A3C67L ^ (0x51ED270B9F8A3C67L >>> 31);
        for (int leaf = 0; leaf < 64; leaf++) {
            Check.equal("leaf " + leaf, x.hash(0, 3, leaf), due);
        }
        Check.equal("of no bytes", hashOf(new byte[0]), due);
    }

    @About(promise = 5, sentence = "for each byte h becomes (h xor it) times 9E3779B97F4A7C15, turned up (to the left) by 23 bits;")
    static void productsWrapAroundAndBitsTurnAround() {
        int turned = 0;
        for (int key = 0; key < 256; key += 5) {
            byte[] bytes = entry(key, 0x0123456789ABCDEFL * key, key, 255 - key, 0x80);
            checkLeaf("key " + key, key, bytes);
            turned += stirred(bytes).testBit(0) ? 1 : 0;
        }
        Check.equal("bits came in below", turned > 0, true);
    }

    @About(promise = 5, sentence = "in the end h xor h moved down by 31 bits, with 0s.")
    static void zerosComeInAboveAHighestBitOfOne() {
        int highest = 0;
        for (int key = 0; key < 64; key++) {
            byte[] bytes = entry(key, 1, 0x21);
            if (stirred(bytes).testBit(63)) {
                checkLeaf("key " + key, key, bytes);
                highest++;
            }
        }
        Check.equal("some have the highest bit", highest > 0, true);
    }

    /** Puts the entry that stands in the bytes as a leaf's hash takes it. */
    private static void checkLeaf(String what, int key, byte[] bytes) {
        TreeGossip x = new TreeGossip();
        putBytes(x, bytes);
        Check.equal(what, x.hash(0, 3, key / 4), hashOf(bytes));
    }

    private static void putBytes(TreeGossip x, byte[] entry) {
        int[] value = new int[entry[9]];
        for (int i = 0; i < value.length; i++) {
            value[i] = Byte.toUnsignedInt(entry[10 + i]);
        }
        Scenes.put(x, 0, Byte.toUnsignedInt(entry[0]), new BigInteger(entry, 1, 8).longValue(), value);
    }

    // Of leaves

    @About(promise = 5, sentence = "A LEAF's hash is that of all entries of its keys, in order: the key, the stamp (8 bytes), the value's length, its bytes;")
    static void aLeafHashesAllItsEntriesInOrderOfKeys() {
        TreeGossip x = new TreeGossip();
        byte[][] entries = {entry(252, -1), entry(253, 0, 1), entry(254, 7, 0xFF, 0x80), entry(255, Long.MIN_VALUE, 1, 2, 3, 4, 5, 6, 7, 8)};
        for (int i = 3; i >= 0; i--) {
            putBytes(x, entries[i]);
        }
        Check.equal("four entries", x.hash(0, 3, 63), hashOf(joined(entries)));
        Check.equal("nothing of the leaf before", x.hash(0, 3, 62), Scenes.EMPTY_LEAF);
    }

    @About(promise = 5, sentence = "A LEAF's hash is that of all entries of its keys, in order:")
    static void keysWithoutAnEntryAreNoPartOfALeaf() {
        TreeGossip x = new TreeGossip();
        byte[] first = entry(4, 5, 6);
        byte[] last = entry(7, 5, 6);
        putBytes(x, last);
        Check.equal("the last key alone", x.hash(0, 3, 1), hashOf(last));
        putBytes(x, first);
        Check.equal("the first and the last", x.hash(0, 3, 1), hashOf(joined(first, last)));
    }

    @About(promise = 5, sentence = "the key, the stamp (8 bytes), the value's length, its bytes;")
    static void anEntryOfNoBytesIsHashedWithItsLength() {
        checkLeaf("no bytes, all 0", 0, entry(0, 0));
        checkLeaf("one byte, all 0", 0, entry(0, 0, 0));
        checkLeaf("eight bytes, all 0", 0, entry(0, 0, 0, 0, 0, 0, 0, 0, 0, 0));
        checkLeaf("eight bytes, all 1", 255, entry(255, -1, 255, 255, 255, 255, 255, 255, 255, 255));
    }

    @About(promise = 5, sentence = "A LEAF's hash is that of all entries of its keys, in order:")
    static void aNewerEntryTakesTheOldOnesPlaceInTheHash() {
        TreeGossip x = new TreeGossip();
        putBytes(x, entry(130, 1, 1, 2, 3));
        putBytes(x, entry(130, 2, 9));
        Check.equal("the newer one alone", x.hash(0, 3, 32), hashOf(entry(130, 2, 9)));
    }

    @About(promise = 5, sentence = "Numbers have the highest byte first.")
    static void theHighestByteIsFirst() {
        checkLeaf("a stamp", 1, entry(1, 0x0102030405060708L));
        checkLeaf("a stamp below 0", 1, entry(1, 0xF1F2F3F4F5F6F7F8L, 0x0A, 0x0B));
    }

    // Of other nodes

    @About(promise = 5, sentence = "another node's that of its children's hashes (8 bytes each, in order).")
    static void aNodeHashesItsChildrenInOrder() {
        TreeGossip x = new TreeGossip();
        Scenes.put(x, 0, 203, 0x0102030405060708L, 0xF1, 0xF2, 0xF3);
        Scenes.put(x, 0, 200, -2);
        long leaf = hashOf(joined(entry(200, -2), entry(203, 0x0102030405060708L, 0xF1, 0xF2, 0xF3)));
        long second = hashOfNumbers(Scenes.EMPTY_LEAF, Scenes.EMPTY_LEAF, leaf, Scenes.EMPTY_LEAF);
        Check.equal("level 2", x.hash(0, 2, 12), second);
        long empty = x.hash(1, 2, 0);
        long first = hashOfNumbers(second, empty, empty, empty);
        Check.equal("level 1", x.hash(0, 1, 3), first);
        empty = x.hash(1, 1, 0);
        Check.equal("level 0", x.hash(0, 0, 0), hashOfNumbers(empty, empty, empty, first));
    }

    @About(promise = 5, sentence = "another node's that of its children's hashes (8 bytes each, in order).")
    static void childrenWithoutEntriesAreHashedToo() {
        TreeGossip x = new TreeGossip();
        for (int level = 2; level >= 0; level--) {
            for (int node = 0; node < NODES[level]; node++) {
                Check.equal("node " + node + " of level " + level, x.hash(1, level, node), hashOfChildren(x, 1, level, node));
            }
        }
        Check.equal("all", x.hash(1, 0, 0), Scenes.EMPTY_ROOT);
    }

    // Promise 5

    @About(promise = 5, sentence = "The hash of a node.")
    static void theHashIsOfTheNamedStore() {
        TreeGossip x = new TreeGossip();
        putBytes(x, entry(9, 1, 1));
        Check.equal("store 0", x.hash(0, 3, 2), hashOf(entry(9, 1, 1)));
        Check.equal("store 1", x.hash(1, 3, 2), Scenes.EMPTY_LEAF);
        Check.equal("store 1, all keys", x.hash(1, 0, 0), Scenes.EMPTY_ROOT);
    }

    @About(promise = 5, sentence = "The hash of a node.")
    static void theHashIsOfWhatTheStoreHasNow() {
        TreeGossip x = Scenes.withGive();
        x.step(1);
        Check.equal("after GIVE", x.hash(1, 3, 0),
            hashOf(joined(entry(0, 5, 5), entry(1, 5, 5), entry(2, 6, 6), entry(3, 4, 4))));
        x.step(0);
        for (int level = 0; level < 4; level++) {
            Check.equal("after BACK, level " + level, x.hash(0, level, 0), x.hash(1, level, 0));
        }
    }

    // The same hash, reckoned with whole numbers

    /** A row of bytes before the last step of its hash. */
    private static BigInteger stirred(byte[] bytes) {
        BigInteger h = BEGIN;
        for (byte b : bytes) {
            BigInteger product = h.xor(BigInteger.valueOf(Byte.toUnsignedInt(b))).multiply(FACTOR).mod(END_OF_LONGS);
            h = product.shiftLeft(23).mod(END_OF_LONGS).add(product.shiftRight(41));
        }
        return h;
    }

    private static long hashOf(byte[] bytes) {
        BigInteger h = stirred(bytes);
        return h.xor(h.shiftRight(31)).longValue();
    }

    private static long hashOfChildren(TreeGossip x, int store, int level, int node) {
        return hashOfNumbers(x.hash(store, level + 1, 4 * node), x.hash(store, level + 1, 4 * node + 1),
            x.hash(store, level + 1, 4 * node + 2), x.hash(store, level + 1, 4 * node + 3));
    }

    private static long hashOfNumbers(long... numbers) {
        ByteArrayOutputStream bytes = new ByteArrayOutputStream();
        for (long number : numbers) {
            write(bytes, number);
        }
        return hashOf(bytes.toByteArray());
    }

    private static byte[] entry(int key, long stamp, int... value) {
        ByteArrayOutputStream bytes = new ByteArrayOutputStream();
        bytes.write(key);
        write(bytes, stamp);
        bytes.write(value.length);
        for (int b : value) {
            bytes.write(b);
        }
        return bytes.toByteArray();
    }

    private static void write(ByteArrayOutputStream bytes, long number) {
        for (int i = 7; i >= 0; i--) {
            bytes.write((int) (number >>> 8 * i));
        }
    }

    private static byte[] joined(byte[]... rows) {
        ByteArrayOutputStream bytes = new ByteArrayOutputStream();
        for (byte[] row : rows) {
            bytes.writeBytes(row);
        }
        return bytes.toByteArray();
    }
}
