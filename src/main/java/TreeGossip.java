/** Two stores that become alike by sending one another hashes of ranges, and then only what differs. */
public final class TreeGossip {
    public static final int NONE = -1;

    private static final int STORES = 2;
    private static final int KEYS = 256;
    private static final int MOST_BYTES = 8;
    private static final int MOST_GOT = 1000;

    private static final int LEAF_LEVEL = 3;
    private static final int FIRST_LEAF = 21;
    private static final int NODES = 85;
    /** A node has as many children as a leaf has keys, so a message has this many parts of either kind. */
    private static final int PARTS = 4;

    private static final int ASK = 0;
    private static final int LIST = 1;
    private static final int GIVE = 2;
    private static final int BACK = 3;

    private final Store[] stores;
    /** The row at s holds the messages to store s. */
    private final Row[] rows;
    private int sent;
    private int lostForRoom;
    private int entriesSent;

    public TreeGossip() {
        stores = new Store[STORES];
        rows = new Row[STORES];
        for (int s = 0; s < STORES; s++) {
            stores[s] = new Store();
            rows[s] = new Row();
        }
        sent = 0;
        lostForRoom = 0;
        entriesSent = 0;
    }

    public boolean put(int store, int key, long stamp, long value, int length)
            throws IndexOutOfBoundsException, IllegalArgumentException {
        checkIndex(store, STORES);
        checkIndex(key, KEYS);
        if (length < 0 || length > MOST_BYTES) {
            throw new IllegalArgumentException("a value has 0 to 8 bytes");
        }
        return stores[store].merge(key, stamp, highestBytes(value, length), length);
    }

    public int get(int store, int key, int what) throws IndexOutOfBoundsException {
        checkIndex(store, STORES);
        checkIndex(key, KEYS);
        checkIndex(what, MOST_BYTES + 1);
        Store own = stores[store];
        if (what == 0) {
            return own.lengths[key];
        }
        // Without an entry the length is NONE, so every byte is beyond it.
        return what > own.lengths[key] ? NONE : byteAt(own.values[key], what - 1);
    }

    public long stamp(int store, int key) throws IndexOutOfBoundsException {
        checkIndex(store, STORES);
        checkIndex(key, KEYS);
        Store own = stores[store];
        return own.has(key) ? own.stamps[key] : 0L;
    }

    public long hash(int store, int level, int node) throws IndexOutOfBoundsException {
        checkIndex(store, STORES);
        checkIndex(level, LEAF_LEVEL + 1);
        checkIndex(node, nodesOf(level));
        return stores[store].hashes[treePlace(level, node)];
    }

    public boolean start(int store) throws IndexOutOfBoundsException {
        checkIndex(store, STORES);
        int place = send(store, ASK, 0, 0, 0);
        if (place == NONE) {
            return false;
        }
        rows[other(store)].hashes[place * PARTS] = stores[store].hashes[0];
        return true;
    }

    public int step(int store) throws IndexOutOfBoundsException {
        checkIndex(store, STORES);
        return receive(store);
    }

    public int lose(int store) throws IndexOutOfBoundsException {
        checkIndex(store, STORES);
        Row row = rows[store];
        if (row.size == 0) {
            return NONE;
        }
        return row.kinds[row.takeOldest()];
    }

    public int run(int n) throws IllegalArgumentException {
        if (n < 0 || n > MOST_GOT) {
            throw new IllegalArgumentException("n is 0 to 1000");
        }
        int got = 0;
        // While any message is left, one of two turns gets one: 2 n turns are enough.
        for (int turn = 0; turn < 2 * n && got < n && messagesLeft(); turn++) {
            if (receive(turn % STORES) != NONE) {
                got++;
            }
        }
        return got;
    }

    public int message(int store, int k, int what) throws IndexOutOfBoundsException {
        checkIndex(store, STORES);
        Row row = rows[store];
        checkIndex(k, row.size);
        checkIndex(what, 4 + PARTS);
        int place = row.ringPlace(k);
        switch (what) {
            case 0:
                return row.kinds[place];
            case 1:
                return row.levels[place];
            case 2:
                return row.nodes[place];
            case 3:
                return Integer.bitCount(row.masks[place]);
            default:
                return row.keyOfEntry(place, what - 4);
        }
    }

    public int count(int what) throws IndexOutOfBoundsException {
        switch (what) {
            case 0:
                return sent;
            case 1:
                return lostForRoom;
            case 2:
                return entriesSent;
            case 3:
                return rows[0].size;
            case 4:
                return rows[1].size;
            case 5:
                return stores[0].entries;
            case 6:
                return stores[1].entries;
            default:
                throw new IndexOutOfBoundsException("no such what");
        }
    }

    public boolean same() {
        for (int key = 0; key < KEYS; key++) {
            Store first = stores[0];
            if (!stores[1].hasJustSo(key, first.stamps[key], first.values[key], first.lengths[key])) {
                return false;
            }
        }
        return true;
    }

    public void clear() {
        for (int s = 0; s < STORES; s++) {
            stores[s].becomeEmpty();
            rows[s].becomeEmpty();
        }
        sent = 0;
        lostForRoom = 0;
        entriesSent = 0;
    }

    private boolean messagesLeft() {
        return rows[0].size > 0 || rows[1].size > 0;
    }

    /** Answers the kind of the message that the store got, or NONE. */
    private int receive(int store) {
        Row row = rows[store];
        if (row.size == 0) {
            return NONE;
        }
        // What stood at the place stays readable: answers go to the other row alone.
        int place = row.takeOldest();
        int kind = row.kinds[place];
        switch (kind) {
            case ASK:
                answerAsk(store, place);
                break;
            case LIST:
                answerList(store, place);
                break;
            case GIVE:
                mergeEntries(store, place);
                answerGive(store, place);
                break;
            default:
                mergeEntries(store, place);
                break;
        }
        return kind;
    }

    private void answerAsk(int store, int place) {
        if (rows[store].hashes[place * PARTS] != stores[store].hashes[0]) {
            sendList(store, 0, 0);
        }
    }

    private void answerList(int store, int place) {
        Row row = rows[store];
        Store own = stores[store];
        int level = row.levels[place] + 1;
        for (int part = 0; part < PARTS; part++) {
            int child = row.nodes[place] * PARTS + part;
            if (row.hashes[place * PARTS + part] == own.hashes[treePlace(level, child)]) {
                continue;
            }
            if (level == LEAF_LEVEL) {
                sendEntries(store, GIVE, child, own.maskOfLeaf(child));
            } else {
                sendList(store, level, child);
            }
        }
    }

    private void answerGive(int store, int place) {
        Row row = rows[store];
        int leaf = row.nodes[place];
        int mask = stores[store].maskOfLeaf(leaf) & ~maskOfKnown(store, place);
        if (mask != 0) {
            sendEntries(store, BACK, leaf, mask);
        }
    }

    /** The parts of a message whose entries the store has just so. */
    private int maskOfKnown(int store, int place) {
        Row row = rows[store];
        int mask = 0;
        for (int part = 0; part < PARTS; part++) {
            int key = row.nodes[place] * PARTS + part;
            int at = place * PARTS + part;
            if (row.hasEntry(place, part)
                    && stores[store].hasJustSo(key, row.stamps[at], row.values[at], row.lengths[at])) {
                mask |= 1 << part;
            }
        }
        return mask;
    }

    private void mergeEntries(int store, int place) {
        Row row = rows[store];
        for (int part = 0; part < PARTS; part++) {
            if (row.hasEntry(place, part)) {
                int at = place * PARTS + part;
                int key = row.nodes[place] * PARTS + part;
                stores[store].merge(key, row.stamps[at], row.values[at], row.lengths[at]);
            }
        }
    }

    private void sendList(int from, int level, int node) {
        int place = send(from, LIST, level, node, 0);
        if (place == NONE) {
            return;
        }
        int firstChild = treePlace(level + 1, node * PARTS);
        for (int part = 0; part < PARTS; part++) {
            rows[other(from)].hashes[place * PARTS + part] = stores[from].hashes[firstChild + part];
        }
    }

    private void sendEntries(int from, int kind, int leaf, int mask) {
        int place = send(from, kind, LEAF_LEVEL, leaf, mask);
        if (place != NONE) {
            rows[other(from)].copyEntries(place, stores[from]);
        }
    }

    /** Counts a message and answers its place in the other store's row, or NONE if that is full. */
    private int send(int from, int kind, int level, int node, int mask) {
        sent++;
        entriesSent += Integer.bitCount(mask);
        int place = rows[other(from)].add(kind, level, node, mask);
        if (place == NONE) {
            lostForRoom++;
        }
        return place;
    }

    private static int other(int store) {
        return 1 - store;
    }

    private static int nodesOf(int level) {
        return 1 << (2 * level);
    }

    /** All nodes stand in one array, level after level; the children of the one at p are from 4 p + 1 on. */
    private static int treePlace(int level, int node) {
        return (nodesOf(level) - 1) / 3 + node;
    }

    private static void checkIndex(int index, int end) {
        if (index < 0 || index >= end) {
            throw new IndexOutOfBoundsException("no such store, key, level, node, message or what");
        }
    }

    /** The byte at an index, 0 being the highest one. */
    private static int byteAt(long number, int index) {
        return (int) (number >>> (56 - 8 * index)) & 255;
    }

    /** The bytes beyond the length become 0, so that equal values are equal numbers. */
    private static long highestBytes(long value, int length) {
        // A shift by 64 would be one by 0.
        return length == 0 ? 0L : value & (-1L << (64 - 8 * length));
    }

    /** The entries of a store and the hashes of all nodes over them. */
    private static final class Store {
        private static final long HASH_BEGIN = 0x51ED270B9F8A3C67L;
        private static final long HASH_FACTOR = 0x9E3779B97F4A7C15L;

        final long[] stamps = new long[KEYS];
        /** The bytes beyond an entry's length are 0. */
        final long[] values = new long[KEYS];
        /** NONE where there is no entry; stamp and value are then 0. */
        final int[] lengths = new int[KEYS];
        final long[] hashes = new long[NODES];
        int entries;

        Store() {
            becomeEmpty();
        }

        void becomeEmpty() {
            for (int key = 0; key < KEYS; key++) {
                stamps[key] = 0L;
                values[key] = 0L;
                lengths[key] = NONE;
            }
            entries = 0;
            hashEmptyTree();
        }

        /** In an empty store all nodes of a level are alike: one hash a level is enough. */
        private void hashEmptyTree() {
            for (int level = LEAF_LEVEL; level >= 0; level--) {
                int first = treePlace(level, 0);
                long h = level == LEAF_LEVEL ? hashOfLeaf(0) : hashOfChildren(first);
                for (int node = 0; node < nodesOf(level); node++) {
                    hashes[first + node] = h;
                }
            }
        }

        boolean has(int key) {
            return lengths[key] != NONE;
        }

        boolean hasJustSo(int key, long stamp, long value, int length) {
            return lengths[key] == length && stamps[key] == stamp && values[key] == value;
        }

        boolean merge(int key, long stamp, long value, int length) {
            if (has(key) && !isNewer(key, stamp, value, length)) {
                return false;
            }
            if (!has(key)) {
                entries++;
            }
            stamps[key] = stamp;
            values[key] = value;
            lengths[key] = length;
            rehashAbove(key);
            return true;
        }

        /** Whether an entry is newer than the one that the key has. */
        private boolean isNewer(int key, long stamp, long value, int length) {
            if (stamp != stamps[key]) {
                return stamp > stamps[key];
            }
            if (length != lengths[key]) {
                return length > lengths[key];
            }
            return Long.compareUnsigned(value, values[key]) > 0;
        }

        /** Bit i is set if the leaf's key i has an entry. */
        int maskOfLeaf(int leaf) {
            int mask = 0;
            for (int part = 0; part < PARTS; part++) {
                if (has(leaf * PARTS + part)) {
                    mask |= 1 << part;
                }
            }
            return mask;
        }

        private void rehashAbove(int key) {
            int leaf = key / PARTS;
            int place = FIRST_LEAF + leaf;
            hashes[place] = hashOfLeaf(leaf);
            for (int level = LEAF_LEVEL; level > 0; level--) {
                place = (place - 1) / PARTS;
                hashes[place] = hashOfChildren(place);
            }
        }

        private long hashOfLeaf(int leaf) {
            long h = HASH_BEGIN;
            for (int part = 0; part < PARTS; part++) {
                int key = leaf * PARTS + part;
                if (has(key)) {
                    h = withBytes(h, asHighestByte(key), 1);
                    h = withBytes(h, stamps[key], 8);
                    h = withBytes(h, asHighestByte(lengths[key]), 1);
                    h = withBytes(h, values[key], lengths[key]);
                }
            }
            return finished(h);
        }

        private long hashOfChildren(int place) {
            long h = HASH_BEGIN;
            for (int part = 0; part < PARTS; part++) {
                h = withBytes(h, hashes[place * PARTS + 1 + part], 8);
            }
            return finished(h);
        }

        private static long asHighestByte(int number) {
            return (long) number << 56;
        }

        /** Takes the highest bytes of a number, so many, into a hash. */
        private static long withBytes(long h, long number, int length) {
            long next = h;
            for (int i = 0; i < length; i++) {
                long product = (next ^ (number >>> (56 - 8 * i) & 255L)) * HASH_FACTOR;
                next = product << 23 | product >>> 41;
            }
            return next;
        }

        private static long finished(long h) {
            return h ^ (h >>> 31);
        }
    }

    /** The messages to a store, in a ring: part i of the message at place p is at 4 p + i. */
    private static final class Row {
        private static final int ROOM = 100;

        final int[] kinds = new int[ROOM];
        final int[] levels = new int[ROOM];
        final int[] nodes = new int[ROOM];
        /** Bit i is set if the message has an entry of its leaf's key i. */
        final int[] masks = new int[ROOM];
        /** Of ASK the first one, of LIST all four. */
        final long[] hashes = new long[ROOM * PARTS];
        final long[] stamps = new long[ROOM * PARTS];
        final long[] values = new long[ROOM * PARTS];
        final int[] lengths = new int[ROOM * PARTS];
        int size;
        private int oldest;

        Row() {
            becomeEmpty();
        }

        void becomeEmpty() {
            size = 0;
            oldest = 0;
        }

        int ringPlace(int k) {
            return (oldest + k) % ROOM;
        }

        /** Answers the new message's place, or NONE if the row is full. */
        int add(int kind, int level, int node, int mask) {
            if (size == ROOM) {
                return NONE;
            }
            int place = ringPlace(size);
            kinds[place] = kind;
            levels[place] = level;
            nodes[place] = node;
            masks[place] = mask;
            size++;
            return place;
        }

        /** Answers the place of the message that leaves the row, which must have one. */
        int takeOldest() {
            int place = oldest;
            oldest = ringPlace(1);
            size--;
            return place;
        }

        boolean hasEntry(int place, int part) {
            return (masks[place] >> part & 1) == 1;
        }

        void copyEntries(int place, Store from) {
            for (int part = 0; part < PARTS; part++) {
                if (hasEntry(place, part)) {
                    int key = nodes[place] * PARTS + part;
                    stamps[place * PARTS + part] = from.stamps[key];
                    values[place * PARTS + part] = from.values[key];
                    lengths[place * PARTS + part] = from.lengths[key];
                }
            }
        }

        int keyOfEntry(int place, int index) {
            int before = 0;
            for (int part = 0; part < PARTS; part++) {
                if (hasEntry(place, part)) {
                    if (before == index) {
                        return nodes[place] * PARTS + part;
                    }
                    before++;
                }
            }
            return NONE;
        }
    }
}
