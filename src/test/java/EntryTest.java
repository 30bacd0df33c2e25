import java.util.Arrays;

/** Stores and entries: promises 1 to 4, 12 and 13. */
public final class EntryTest {
    private static final int[] EIGHT = {0x80, 0xFF, 0x01, 0x7F, 0x00, 0xAB, 0x10, 0xFE};

    public static void main(String[] args) {
        Sentences.test(EntryTest.class);
    }

    // Promise 1

    @About(promise = 1, sentence = "Both stores are empty, no messages.")
    static void aNewObjectIsEmpty() {
        TreeGossip x = new TreeGossip();
        Scenes.checkAsAtFirst("new", x);
        for (int store = 0; store < 2; store++) {
            Check.equal("step", x.step(store), Scenes.NONE);
            Check.equal("lose", x.lose(store), Scenes.NONE);
        }
        Check.equal("run", x.run(1000), 0);
    }

    @About(promise = 1, sentence = "Both stores are empty, no messages.")
    static void aNewObjectIsEmptyBesideAUsedOne() {
        TreeGossip x = new TreeGossip();
        TreeGossip used = Scenes.withAllKinds();
        Scenes.checkAsAtFirst("made before", x);
        Scenes.checkAsAtFirst("made after", new TreeGossip());
        Check.equal("the used one", used.count(4), 3);
    }

    @About(promise = 1, sentence = "An object is used for at most 512 calls after it has been made")
    static void theLastOf512CallsIsAnsweredToo() {
        TreeGossip asked = new TreeGossip();
        Scenes.askTimes(asked, 1, 511);
        Check.equal("the 512th call, of count", asked.count(1), 411);

        TreeGossip changed = new TreeGossip();
        for (int stamp = 0; stamp < 511; stamp++) {
            changed.put(1, 255, stamp, stamp, 8);
        }
        Check.equal("the 512th call, of put", changed.put(1, 255, 511, 0, 0), true);

        TreeGossip full = new TreeGossip();
        for (int i = 0; i < 511; i++) {
            full.put(i % 2, i / 2, i, i, 8);
        }
        Check.equal("the 512th call, of the last key without an entry", full.put(1, 255, 1, 1, 8), true);
    }

    // Stores and keys

    @About(promise = 2, sentence = "STORES 0 and 1 have for some KEYS (0 ..")
    static void storesAreZeroAndOne() {
        for (int store = 0; store < 2; store++) {
            TreeGossip x = new TreeGossip();
            Check.equal("put", Scenes.put(x, store, 9, 3, 0x21), true);
            Scenes.checkEntry("its own", x, store, 9, 3, 0x21);
            Scenes.checkNoEntry("the other store", x, 1 - store, 9);
        }
        refusesPut(-1, 9);
        refusesPut(2, 9);
    }

    @About(promise = 2, sentence = "STORES 0 and 1 have for some KEYS (0 ..")
    static void theFirstKeyIsZero() {
        TreeGossip x = new TreeGossip();
        Scenes.put(x, 0, 0, 3, 0x21);
        Scenes.checkEntry("key 0", x, 0, 0, 3, 0x21);
        Scenes.checkNoEntry("key 1", x, 0, 1);
        refusesPut(0, -1);
    }

    @About(promise = 2, sentence = "255) an ENTRY:")
    static void theLastKeyIs255() {
        TreeGossip x = new TreeGossip();
        Scenes.put(x, 1, 255, 3, 0x21);
        Scenes.checkEntry("key 255", x, 1, 255, 3, 0x21);
        Scenes.checkNoEntry("key 254", x, 1, 254);
        refusesPut(1, 256);
    }

    private static void refusesPut(int store, int key) {
        Check.fails("put " + store + " " + key, IndexOutOfBoundsException.class,
            () -> new TreeGossip().put(store, key, 3, 0, 1));
    }

    @About(promise = 2, sentence = "255) an ENTRY:")
    static void everyKeyMayHaveAnEntryOfItsOwn() {
        TreeGossip x = new TreeGossip();
        for (int key = 0; key < 256; key++) {
            Check.equal("put " + key, x.put(0, key, key - 128, 0, 0), true);
        }
        for (int key = 0; key < 255; key++) {
            Check.equal("stamp " + key, x.stamp(0, key), key - 128L);
        }
        Check.equal("entries", x.count(5), 256);
    }

    @About(promise = 2, sentence = "a STAMP (any long)")
    static void aStampIsAnyLong() {
        for (long stamp : new long[] {Long.MIN_VALUE, -1, 0, 1, 1L << 32, Long.MAX_VALUE}) {
            TreeGossip x = new TreeGossip();
            Check.equal("put " + stamp, Scenes.put(x, 0, 7, stamp, 0x21), true);
            Scenes.checkEntry("stamp " + stamp, x, 0, 7, stamp, 0x21);
            x.start(0);
            x.run(1000);
            Scenes.checkEntry("stamp sent " + stamp, x, 1, 7, stamp, 0x21);
        }
    }

    @About(promise = 2, sentence = "and a VALUE (0 to 8 bytes).")
    static void aValueHasZeroToEightBytes() {
        for (int length = 0; length <= 8; length++) {
            TreeGossip x = new TreeGossip();
            int[] bytes = Arrays.copyOf(EIGHT, length);
            Check.equal("put " + length, Scenes.put(x, 1, 7, 0, bytes), true);
            Scenes.checkEntry("bytes " + length, x, 1, 7, 0, bytes);
            x.start(1);
            x.run(1000);
            Scenes.checkEntry("bytes sent " + length, x, 0, 7, 0, bytes);
        }
    }

    // Which entry is newer

    @About(promise = 2, sentence = "Of two entries of a key the one with the greater stamp is NEWER;")
    static void theGreaterStampIsNewerWhateverTheValue() {
        long[] rising = {Long.MIN_VALUE, Long.MIN_VALUE + 1, -(1L << 32), -1, 0, 1, (1L << 32) - 1, 1L << 32, Long.MAX_VALUE};
        for (int less = 0; less < rising.length; less++) {
            for (int more = less + 1; more < rising.length; more++) {
                String stamps = rising[less] + " and " + rising[more];
                TreeGossip x = new TreeGossip();
                Scenes.put(x, 0, 7, rising[less], EIGHT);
                Check.equal("the greater one of " + stamps, Scenes.put(x, 0, 7, rising[more]), true);
                Check.equal("the lesser one of " + stamps, Scenes.put(x, 0, 7, rising[less], EIGHT), false);
                Scenes.checkEntry("what stays of " + stamps, x, 0, 7, rising[more]);
            }
        }
    }

    @About(promise = 2, sentence = "of the same stamp the longer value;")
    static void theLongerValueIsNewerWhateverItsBytes() {
        for (int length = 0; length < 8; length++) {
            TreeGossip x = new TreeGossip();
            x.put(0, 7, -5, -1, length);
            Check.equal("longer by one than " + length, x.put(0, 7, -5, 0, length + 1), true);
            Check.equal("shorter by one again", x.put(0, 7, -5, -1, length), false);
            Scenes.checkEntry("the longer one", x, 0, 7, -5, new int[length + 1]);
        }
        TreeGossip y = new TreeGossip();
        y.put(0, 7, -5, -1, 0);
        Check.equal("eight bytes against none", y.put(0, 7, -5, 0, 8), true);
    }

    @About(promise = 2, sentence = "of as long ones that whose first unlike byte is the greater one")
    static void theFirstUnlikeByteDecides() {
        for (int length = 1; length <= 8; length++) {
            for (int at = 0; at < length; at++) {
                checkNewer("byte " + at + " of " + length, withByte(length, at, 0x21, 0x00), withByte(length, at, 0x20, 0xFF));
            }
        }
    }

    @About(promise = 2, sentence = "(without sign).")
    static void bytesHaveNoSign() {
        for (int at = 0; at < 8; at++) {
            checkNewer("80 and 7F at " + at, withByte(8, at, 0x80, 0x00), withByte(8, at, 0x7F, 0xFF));
            checkNewer("FF and 00 at " + at, withByte(8, at, 0xFF, 0x00), withByte(8, at, 0x00, 0xFF));
        }
        checkNewer("80 and 7F alone", new int[] {0x80}, new int[] {0x7F});
    }

    /** Bytes of which one stands at an index, others before and behind it. */
    private static int[] withByte(int length, int at, int one, int behind) {
        int[] bytes = new int[length];
        for (int i = 0; i < length; i++) {
            bytes[i] = i < at ? 0x90 : i == at ? one : behind;
        }
        return bytes;
    }

    private static void checkNewer(String what, int[] newer, int[] older) {
        TreeGossip x = new TreeGossip();
        Scenes.put(x, 0, 7, 1, older);
        Check.equal(what + ": the newer one", Scenes.put(x, 0, 7, 1, newer), true);
        Check.equal(what + ": the older one", Scenes.put(x, 0, 7, 1, older), false);
        Scenes.checkEntry(what, x, 0, 7, 1, newer);
    }

    // To merge

    @About(promise = 2, sentence = "TO MERGE an entry: it takes the place of the store's, if that has none")
    static void theLeastEntryComesInWhereThereIsNone() {
        TreeGossip x = new TreeGossip();
        Check.equal("the least one", Scenes.put(x, 1, 0, Long.MIN_VALUE), true);
        Scenes.checkEntry("the least one", x, 1, 0, Long.MIN_VALUE);
        Check.equal("zeros", Scenes.put(x, 1, 1, 0, 0), true);
        Scenes.checkEntry("zeros", x, 1, 1, 0, 0);
    }

    @About(promise = 2, sentence = "or an older one.")
    static void aNewerEntryTakesTheWholePlace() {
        TreeGossip x = new TreeGossip();
        Scenes.put(x, 0, 7, 1, EIGHT);
        Check.equal("newer", Scenes.put(x, 0, 7, 2, 0x21), true);
        Scenes.checkEntry("newer", x, 0, 7, 2, 0x21);
        Check.equal("one entry", x.count(5), 1);
    }

    @About(promise = 2, sentence = "or an older one.")
    static void anOlderEntryStaysOutside() {
        TreeGossip x = new TreeGossip();
        Scenes.put(x, 0, 7, 2, 0x21);
        long hash = x.hash(0, 0, 0);
        Check.equal("older by its stamp", Scenes.put(x, 0, 7, 1, EIGHT), false);
        Check.equal("older by its length", Scenes.put(x, 0, 7, 2), false);
        Check.equal("older by its byte", Scenes.put(x, 0, 7, 2, 0x20), false);
        Scenes.checkEntry("what was there", x, 0, 7, 2, 0x21);
        Check.equal("the hash", x.hash(0, 0, 0), hash);
    }

    @About(promise = 2, sentence = "An entry is merged: whether it came in.")
    static void theSameEntryDoesNotComeInAgain() {
        for (int length = 0; length <= 8; length++) {
            for (long stamp : new long[] {Long.MIN_VALUE, 0, Long.MAX_VALUE}) {
                TreeGossip x = new TreeGossip();
                Check.equal("at first, " + length, x.put(0, 7, stamp, -1, length), true);
                Check.equal("again, " + length, x.put(0, 7, stamp, -1, length), false);
                Check.equal("in the other store", x.put(1, 7, stamp, -1, length), true);
            }
        }
    }

    @About(promise = 2, sentence = "Its value are the highest bytes of a long, so many (0 .. 8).")
    static void theLowerBytesOfTheLongAreNoPartOfTheValue() {
        for (int length = 0; length < 8; length++) {
            TreeGossip x = new TreeGossip();
            long lower = -1L >>> 8 * length;
            x.put(0, 7, 1, 0, length);
            Check.equal("no newer for its lower bytes, " + length, x.put(0, 7, 1, lower, length), false);
            x.put(1, 7, 1, lower, length);
            Check.equal("the same entries, " + length, x.same(), true);
            Check.equal("the same hash, " + length, x.hash(1, 3, 1), x.hash(0, 3, 1));
        }
    }

    @About(promise = 2, sentence = "Its value are the highest bytes of a long, so many (0 .. 8).")
    static void ofZeroBytesNothingOfTheLongIsTaken() {
        TreeGossip x = new TreeGossip();
        Check.equal("put", x.put(0, 7, 1, -1, 0), true);
        Scenes.checkEntry("no bytes", x, 0, 7, 1);
    }

    @About(promise = 2, sentence = "Its value are the highest bytes of a long, so many (0 .. 8).")
    static void ofEightBytesTheWholeLongIsTaken() {
        TreeGossip x = new TreeGossip();
        Check.equal("put", x.put(0, 7, 1, 0x80FF017F00AB10FEL, 8), true);
        Scenes.checkEntry("eight bytes", x, 0, 7, 1, EIGHT);
    }

    // Promises 3 and 4

    @About(promise = 3, sentence = "what = 0 how many bytes its value has (NONE: there is no entry),")
    static void lengthIsNoneOnlyWithoutAnEntry() {
        TreeGossip x = new TreeGossip();
        Check.equal("no entry", x.get(0, 7, 0), Scenes.NONE);
        Scenes.put(x, 0, 7, 1);
        Check.equal("no bytes", x.get(0, 7, 0), 0);
        Check.equal("the other store", x.get(1, 7, 0), Scenes.NONE);
        Check.equal("another key", x.get(0, 8, 0), Scenes.NONE);
        Scenes.put(x, 0, 7, 2, EIGHT);
        Check.equal("eight bytes", x.get(0, 7, 0), 8);
    }

    @About(promise = 3, sentence = "Of an entry: what = 0 how many bytes its value has (NONE: there is no entry), 1 to 8 its bytes (NONE beyond).")
    static void bytesAreToldUpToTheLength() {
        TreeGossip x = new TreeGossip();
        for (int length = 0; length <= 8; length++) {
            x.put(1, 31 * length, -3, Scenes.value(EIGHT), length);
            for (int what = 1; what <= 8; what++) {
                int due = what <= length ? EIGHT[what - 1] : Scenes.NONE;
                Check.equal("byte " + what + " of " + length, x.get(1, 31 * length, what), due);
            }
        }
    }

    @About(promise = 3, sentence = "1 to 8 its bytes (NONE beyond).")
    static void aByteFFIsNotNone() {
        TreeGossip x = new TreeGossip();
        x.put(0, 7, 1, -1, 8);
        for (int what = 1; what <= 8; what++) {
            Check.equal("byte " + what, x.get(0, 7, what), 255);
        }
    }

    @About(promise = 3, sentence = "1 to 8 its bytes (NONE beyond).")
    static void withoutAnEntryEveryByteIsBeyond() {
        TreeGossip x = new TreeGossip();
        for (int what = 1; what <= 8; what++) {
            Check.equal("byte " + what, x.get(0, 7, what), Scenes.NONE);
        }
    }

    @About(promise = 3, sentence = "1 to 8 its bytes (NONE beyond).")
    static void aShorterNewerValueLeavesNoOldBytes() {
        TreeGossip x = new TreeGossip();
        x.put(0, 7, 1, -1, 8);
        Scenes.put(x, 0, 7, 2, 0x21);
        for (int what = 2; what <= 8; what++) {
            Check.equal("byte " + what, x.get(0, 7, what), Scenes.NONE);
        }
    }

    @About(promise = 4, sentence = "The stamp of an entry; 0 without one.")
    static void theStampIsZeroWithoutAnEntry() {
        TreeGossip x = new TreeGossip();
        Scenes.put(x, 0, 255, -7);
        Check.equal("its own", x.stamp(0, 255), -7L);
        Check.equal("without one", x.stamp(0, 0), 0L);
        Check.equal("of the key before", x.stamp(0, 254), 0L);
        Check.equal("of the other store", x.stamp(1, 255), 0L);
        Scenes.put(x, 0, 255, Long.MAX_VALUE);
        Check.equal("of the newer one", x.stamp(0, 255), Long.MAX_VALUE);
    }

    // Promise 12

    @About(promise = 12, sentence = "Whether both stores have the same entries.")
    static void emptyStoresAreTheSame() {
        TreeGossip x = new TreeGossip();
        Check.equal("new", x.same(), true);
        x.start(0);
        Check.equal("whatever is on its way", x.same(), true);
    }

    @About(promise = 12, sentence = "Whether both stores have the same entries.")
    static void anEntryOfZerosIsNotTheSameAsNone() {
        for (int store = 0; store < 2; store++) {
            for (int key : new int[] {0, 255}) {
                TreeGossip x = new TreeGossip();
                Scenes.put(x, store, key, 0);
                Check.equal("only store " + store + " has " + key, x.same(), false);
                Scenes.put(x, 1 - store, key == 0 ? 1 : 254, 0);
                Check.equal("the other one has another key", x.same(), false);
                Scenes.put(x, 1 - store, key, 0);
                Check.equal("the other one has more", x.same(), false);
            }
        }
    }

    @About(promise = 12, sentence = "Whether both stores have the same entries.")
    static void entriesAreTheSameInEachPart() {
        checkSame("all", true, 1, EIGHT, 1, EIGHT);
        checkSame("no bytes", true, 1, new int[0], 1, new int[0]);
        checkSame("stamps", false, 1, EIGHT, 2, EIGHT);
        checkSame("stamps by their higher half", false, 1, EIGHT, 1 + (1L << 32), EIGHT);
        checkSame("lengths", false, 1, new int[0], 1, new int[] {0});
        checkSame("first bytes", false, 1, withByte(8, 0, 1, 0), 1, withByte(8, 0, 2, 0));
        checkSame("last bytes", false, 1, withByte(8, 7, 1, 0), 1, withByte(8, 7, 2, 0));
    }

    private static void checkSame(String what, boolean due, long stamp, int[] bytes, long otherStamp, int[] otherBytes) {
        for (int key : new int[] {0, 255}) {
            TreeGossip x = new TreeGossip();
            Scenes.put(x, 0, key, stamp, bytes);
            Scenes.put(x, 1, key, otherStamp, otherBytes);
            Check.equal(what + " of key " + key, x.same(), due);
        }
    }

    // Promise 13

    @About(promise = 13, sentence = "All as at first.")
    static void clearEmptiesStoresAndRows() {
        TreeGossip x = Scenes.withAllKinds();
        x.put(0, 255, 1, -1, 8);
        x.clear();
        Scenes.checkAsAtFirst("cleared", x);
        for (int key = 0; key < 4; key++) {
            Scenes.checkNoEntry("key " + key, x, 0, key);
            Scenes.checkNoEntry("key " + key, x, 1, key);
        }
    }

    @About(promise = 13, sentence = "All as at first.")
    static void clearGivesFullRowsTheirRoomAgain() {
        TreeGossip x = new TreeGossip();
        Scenes.askTimes(x, 0, 101);
        Scenes.askTimes(x, 1, 101);
        x.clear();
        Scenes.checkAsAtFirst("cleared", x);
        Scenes.askTimes(x, 0, 99);
        Check.equal("the 100th", x.start(1), true);
        Check.equal("the 101st", x.start(1), false);
    }

    @About(promise = 13, sentence = "All as at first.")
    static void clearLeavesNothingOfOldEntries() {
        TreeGossip x = new TreeGossip();
        x.put(0, 1, Long.MAX_VALUE, -1, 8);
        x.clear();
        Check.equal("the least one comes in", Scenes.put(x, 0, 1, Long.MIN_VALUE), true);
        Scenes.put(x, 1, 1, Long.MIN_VALUE);
        Check.equal("the same", x.same(), true);
        Check.equal("its hash", x.hash(0, 0, 0), x.hash(1, 0, 0));
        Check.equal("entries", x.count(5), 1);
    }

    @About(promise = 13, sentence = "All as at first.")
    static void clearOfANewObjectChangesNothing() {
        TreeGossip x = new TreeGossip();
        x.clear();
        x.clear();
        Scenes.checkAsAtFirst("cleared twice", x);
    }

    @About(promise = 13, sentence = "All as at first.")
    static void aClearedObjectGoesOnLikeANewOne() {
        TreeGossip x = Scenes.withAllKinds();
        x.clear();
        for (TreeGossip each : new TreeGossip[] {x, new TreeGossip()}) {
            Scenes.put(each, 0, 200, 1, EIGHT);
            each.start(1);
            Check.equal("messages got", each.run(1000), 6);
            Scenes.checkEntry("sent", each, 1, 200, 1, EIGHT);
            Scenes.checkCounts("in the end", each, 6, 0, 1, 0, 0, 1, 1);
        }
    }
}
