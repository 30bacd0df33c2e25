import java.io.ByteArrayOutputStream;
import java.util.ArrayDeque;
import java.util.ArrayList;
import java.util.Arrays;
import java.util.List;
import java.util.Map;
import java.util.TreeMap;

/** The document over again, as plainly as the library allows: nothing kept that can be reckoned anew. */
final class Model {
    record Entry(long stamp, List<Integer> bytes) {
        boolean newerThan(Entry other) {
            if (stamp != other.stamp) {
                return stamp > other.stamp;
            }
            if (bytes.size() != other.bytes.size()) {
                return bytes.size() > other.bytes.size();
            }
            for (int i = 0; i < bytes.size(); i++) {
                if (!bytes.get(i).equals(other.bytes.get(i))) {
                    return bytes.get(i) > other.bytes.get(i);
                }
            }
            return false;
        }
    }

    record Message(int kind, int level, int node, List<Long> hashes, TreeMap<Integer, Entry> entries) {
    }

    final List<TreeMap<Integer, Entry>> stores = List.of(new TreeMap<>(), new TreeMap<>());
    final List<ArrayDeque<Message>> rows = List.of(new ArrayDeque<>(), new ArrayDeque<>());
    int sent;
    int lost;
    int entriesSent;

    private static void index(int i, int end) {
        if (i < 0 || i >= end) {
            throw new IndexOutOfBoundsException();
        }
    }

    boolean put(int store, int key, long stamp, long value, int length) {
        index(store, 2);
        index(key, 256);
        if (length < 0 || length > 8) {
            throw new IllegalArgumentException();
        }
        List<Integer> bytes = new ArrayList<>();
        for (int b : bytesOf(value).subList(0, length)) {
            bytes.add(b);
        }
        return merge(store, key, new Entry(stamp, bytes));
    }

    private boolean merge(int store, int key, Entry entry) {
        Entry own = stores.get(store).get(key);
        if (own != null && !entry.newerThan(own)) {
            return false;
        }
        stores.get(store).put(key, entry);
        return true;
    }

    int get(int store, int key, int what) {
        index(store, 2);
        index(key, 256);
        index(what, 9);
        Entry entry = stores.get(store).get(key);
        if (entry == null) {
            return -1;
        }
        if (what == 0) {
            return entry.bytes.size();
        }
        return what <= entry.bytes.size() ? entry.bytes.get(what - 1) : -1;
    }

    long stamp(int store, int key) {
        index(store, 2);
        index(key, 256);
        Entry entry = stores.get(store).get(key);
        return entry == null ? 0 : entry.stamp;
    }

    long hash(int store, int level, int node) {
        index(store, 2);
        index(level, 4);
        index(node, new int[] {1, 4, 16, 64}[level]);
        ByteArrayOutputStream bytes = new ByteArrayOutputStream();
        if (level == 3) {
            for (Map.Entry<Integer, Entry> e : stores.get(store).subMap(4 * node, 4 * node + 4).entrySet()) {
                bytes.write(e.getKey());
                bytesOf(e.getValue().stamp).forEach(bytes::write);
                bytes.write(e.getValue().bytes.size());
                e.getValue().bytes.forEach(bytes::write);
            }
        } else {
            for (long h : childHashes(store, level, node)) {
                bytesOf(h).forEach(bytes::write);
            }
        }
        return hashOf(bytes.toByteArray());
    }

    private List<Long> childHashes(int store, int level, int node) {
        List<Long> hashes = new ArrayList<>();
        for (int child = 4 * node; child < 4 * node + 4; child++) {
            hashes.add(hash(store, level + 1, child));
        }
        return hashes;
    }

    static long hashOf(byte[] bytes) {
        long h = 0x51ED270B9F8A3C67L;
        for (byte b : bytes) {
            h = Long.rotateLeft((h ^ Byte.toUnsignedLong(b)) * 0x9E3779B97F4A7C15L, 23);
        }
        return h ^ h >>> 31;
    }

    private static List<Integer> bytesOf(long number) {
        Integer[] bytes = new Integer[8];
        for (int i = 7; i >= 0; i--) {
            bytes[i] = (int) (number & 255);
            number >>>= 8;
        }
        return Arrays.asList(bytes);
    }

    private boolean send(int from, int kind, int level, int node, List<Long> hashes, Map<Integer, Entry> entries) {
        sent++;
        entriesSent += entries.size();
        if (rows.get(1 - from).size() == 100) {
            lost++;
            return false;
        }
        rows.get(1 - from).add(new Message(kind, level, node, hashes, new TreeMap<>(entries)));
        return true;
    }

    boolean start(int store) {
        index(store, 2);
        return send(store, 0, 0, 0, List.of(hash(store, 0, 0)), Map.of());
    }

    int lose(int store) {
        index(store, 2);
        Message m = rows.get(store).poll();
        return m == null ? -1 : m.kind;
    }

    int step(int store) {
        index(store, 2);
        Message m = rows.get(store).poll();
        if (m == null) {
            return -1;
        }
        m.entries.forEach((key, entry) -> merge(store, key, entry));
        if (m.kind == 0 && hash(store, 0, 0) != m.hashes.get(0)) {
            send(store, 1, 0, 0, childHashes(store, 0, 0), Map.of());
        }
        if (m.kind == 1) {
            answerList(store, m);
        }
        if (m.kind == 2) {
            TreeMap<Integer, Entry> back = new TreeMap<>(leaf(store, m.node));
            back.entrySet().removeAll(m.entries.entrySet());
            if (!back.isEmpty()) {
                send(store, 3, 3, m.node, List.of(), back);
            }
        }
        return m.kind;
    }

    private void answerList(int store, Message m) {
        List<Long> own = childHashes(store, m.level, m.node);
        for (int i = 0; i < 4; i++) {
            int child = 4 * m.node + i;
            if (own.get(i).equals(m.hashes.get(i))) {
                continue;
            }
            if (m.level == 2) {
                send(store, 2, 3, child, List.of(), leaf(store, child));
            } else {
                send(store, 1, m.level + 1, child, childHashes(store, m.level + 1, child), Map.of());
            }
        }
    }

    private Map<Integer, Entry> leaf(int store, int node) {
        return stores.get(store).subMap(4 * node, 4 * node + 4);
    }

    int run(int n) {
        if (n < 0 || n > 1000) {
            throw new IllegalArgumentException();
        }
        int got = 0;
        int turn = 0;
        while (got < n && !(rows.get(0).isEmpty() && rows.get(1).isEmpty())) {
            got += step(turn) == -1 ? 0 : 1;
            turn = 1 - turn;
        }
        return got;
    }

    int message(int store, int k, int what) {
        index(store, 2);
        index(k, rows.get(store).size());
        index(what, 8);
        Message m = new ArrayList<>(rows.get(store)).get(k);
        List<Integer> answers = new ArrayList<>(List.of(m.kind, m.level, m.node, m.entries.size()));
        answers.addAll(m.entries.keySet());
        return what < answers.size() ? answers.get(what) : -1;
    }

    int count(int what) {
        index(what, 7);
        return new int[] {sent, lost, entriesSent, rows.get(0).size(), rows.get(1).size(),
            stores.get(0).size(), stores.get(1).size()}[what];
    }

    boolean same() {
        return stores.get(0).equals(stores.get(1));
    }

    void clear() {
        stores.forEach(TreeMap::clear);
        rows.forEach(ArrayDeque::clear);
        sent = 0;
        lost = 0;
        entriesSent = 0;
    }
}
