/** What who gets a message does, kind by kind: promise 7. */
public final class KindTest {
    private static final int ASK = Scenes.ASK;
    private static final int LIST = Scenes.LIST;
    private static final int GIVE = Scenes.GIVE;
    private static final int BACK = Scenes.BACK;

    public static void main(String[] args) {
        Sentences.test(KindTest.class);
    }

    // ASK

    @About(promise = 7, sentence = "0 ASK: the sender's hash of node 0 of level 0. Who gets it sends, if its own one is another, a LIST of that node.")
    static void anAskWithAnotherHashIsAnsweredByAList() {
        for (int store = 0; store < 2; store++) {
            for (int key : new int[] {0, 255}) {
                TreeGossip x = new TreeGossip();
                Scenes.put(x, store, key, 0);
                x.start(0);
                Check.equal("got", x.step(1), ASK);
                Check.equal("one answer", x.count(3), 1);
                Scenes.checkMessage("LIST", x, 0, 0, LIST, 0, 0);
                Check.equal("nothing to itself", x.count(4), 0);
            }
        }
    }

    @About(promise = 7, sentence = "Who gets it sends, if its own one is another, a LIST of that node.")
    static void anAskWithTheSameHashIsNotAnswered() {
        TreeGossip empty = new TreeGossip();
        empty.start(0);
        Check.equal("got by an empty store", empty.step(1), ASK);
        Scenes.checkCounts("after it", empty, 1, 0, 0, 0, 0, 0, 0);

        TreeGossip x = new TreeGossip();
        Scenes.put(x, 0, 255, 1, 0x21);
        Scenes.put(x, 1, 255, 1, 0x21);
        x.start(1);
        Check.equal("got by one with the same entries", x.step(0), ASK);
        Scenes.checkCounts("after it", x, 1, 0, 0, 0, 0, 1, 1);
    }

    @About(promise = 7, sentence = "0 ASK: the sender's hash of node 0 of level 0.")
    static void eachAskIsAnsweredForItself() {
        TreeGossip x = new TreeGossip();
        x.start(0);
        Scenes.put(x, 0, 9, 1, 0x21);
        x.start(0);
        x.step(1);
        Check.equal("the first one is alike", x.count(3), 0);
        x.step(1);
        Check.equal("the second one is not", x.count(3), 1);
    }

    // LIST

    @About(promise = 7, sentence = "1 LIST of a node: the hashes of its four children. Who gets it sends, for each child in order for which its own hash is another one: a LIST of that child,")
    static void aListIsAnsweredForEachUnlikeChildInOrder() {
        for (int mask = 1; mask < 16; mask++) {
            checkAnswersToList(0, 0, mask);
            checkAnswersToList(1, 0, mask);
            checkAnswersToList(1, 3, mask);
        }
    }

    /** Unlike are the children of a node whose bits are set. */
    private static void checkAnswersToList(int level, int node, int mask) {
        TreeGossip x = new TreeGossip();
        int width = level == 0 ? 64 : 16;
        for (int i = 3; i >= 0; i--) {
            int key = (4 * node + i) * width + i;
            Scenes.put(x, 0, key, 1);
            Scenes.put(x, 1, key, 1 + (mask >> i & 1));
        }
        Scenes.askAndStep(x, level + 1);
        int store = level % 2;
        Check.equal("got", x.step(store), LIST);
        int k = 0;
        for (int i = 0; i < 4; i++) {
            if ((mask >> i & 1) == 1) {
                String what = "mask " + mask + " of node " + node + " of level " + level;
                Scenes.checkMessage(what, x, 1 - store, k++, LIST, level + 1, 4 * node + i);
            }
        }
        Check.equal("no more answers", x.count(4 - store), k);
    }

    @About(promise = 7, sentence = "Who gets it sends, for each child in order for which its own hash is another one:")
    static void aListWithTheSameHashesIsNotAnswered() {
        for (int level = 0; level < 3; level++) {
            int getter = level % 2;
            TreeGossip x = new TreeGossip();
            Scenes.put(x, 1 - getter, 7, 1, 0x21);
            Scenes.askAndStep(x, level + 1);
            Scenes.put(x, getter, 7, 1, 0x21);
            Check.equal("got", x.step(getter), LIST);
            Check.equal("no answer at level " + level, x.count(4 - getter), 0);
        }
    }

    @About(promise = 7, sentence = "or, if it is a leaf, GIVE.")
    static void aListOfLeavesIsAnsweredByGives() {
        TreeGossip x = new TreeGossip();
        for (int key = 0; key < 4; key++) {
            Scenes.put(x, 0, key, 1);
        }
        Scenes.put(x, 1, 5, 1);
        Scenes.put(x, 0, 9, 2);
        Scenes.put(x, 1, 9, 2);
        Scenes.put(x, 0, 14, 1);
        Scenes.put(x, 0, 12, 1);
        Scenes.askAndStep(x, 3);
        Check.equal("got", x.step(0), LIST);
        Check.equal("one for each unlike leaf", x.count(4), 3);
        Scenes.checkMessage("a full leaf", x, 1, 0, GIVE, 3, 0, 0, 1, 2, 3);
        Scenes.checkMessage("an empty leaf", x, 1, 1, GIVE, 3, 1);
        Scenes.checkMessage("keys in order", x, 1, 2, GIVE, 3, 3, 12, 14);
    }

    @About(promise = 7, sentence = "or, if it is a leaf, GIVE.")
    static void theLastLeafIsGivenToo() {
        TreeGossip x = new TreeGossip();
        Scenes.put(x, 0, 255, 1, 0x21);
        Scenes.askAndStep(x, 3);
        Check.equal("got", x.step(0), LIST);
        Scenes.checkMessage("GIVE", x, 1, 0, GIVE, 3, 63, 255);
        Check.equal("one answer", x.count(4), 1);
    }

    // GIVE

    @About(promise = 7, sentence = "2 GIVE of a leaf: all entries of it.")
    static void aGiveHasAllEntriesOfItsLeafAndNoOthers() {
        TreeGossip x = new TreeGossip();
        for (int key = 99; key <= 104; key++) {
            Scenes.put(x, 0, key, key, key);
        }
        Scenes.put(x, 1, 99, 99, 99);
        Scenes.put(x, 1, 104, 104, 104);
        Scenes.put(x, 1, 101, 101, 101);
        Scenes.askAndStep(x, 4);
        Check.equal("one GIVE", x.count(4), 1);
        Scenes.checkMessage("also what both have", x, 1, 0, GIVE, 3, 25, 100, 101, 102, 103);
    }

    @About(promise = 7, sentence = "2 GIVE of a leaf: all entries of it.")
    static void aGiveOfAnEmptyLeafHasNoEntries() {
        TreeGossip x = new TreeGossip();
        Scenes.put(x, 1, 100, 1, 0x21);
        Scenes.askAndStep(x, 4);
        Scenes.checkMessage("GIVE", x, 1, 0, GIVE, 3, 25);
        Check.equal("got", x.step(1), GIVE);
        Scenes.checkMessage("BACK of what it has not", x, 0, 0, BACK, 3, 25, 100);
    }

    @About(promise = 7, sentence = "Who gets it merges them;")
    static void aGiveIsMerged() {
        TreeGossip x = Scenes.withGive();
        Check.equal("got", x.step(1), GIVE);
        Scenes.checkEntry("where there was none", x, 1, 0, 5, 0x05);
        Scenes.checkEntry("where there was an older one", x, 1, 1, 5, 0x05);
        Scenes.checkEntry("where there is a newer one", x, 1, 2, 6, 0x06);
        Scenes.checkEntry("where it has none", x, 1, 3, 4, 0x04);
        Scenes.checkNoEntry("the sender stays as it was", x, 0, 3);
    }

    @About(promise = 7, sentence = "and then, if it has entries of that leaf that the message has not just so, sends them: BACK.")
    static void whatAGiveHasNotJustSoIsSentBack() {
        TreeGossip x = Scenes.withGive();
        x.step(1);
        Check.equal("one answer", x.count(3), 1);
        Scenes.checkMessage("a newer one and one of its own", x, 0, 0, BACK, 3, 0, 2, 3);
    }

    @About(promise = 7, sentence = "and then, if it has entries of that leaf that the message has not just so, sends them: BACK.")
    static void unlikeInAnyPartIsNotJustSo() {
        checkSentBack("a greater stamp", 1, new int[] {5}, 2, new int[] {5});
        checkSentBack("a stamp greater in its higher half", 1, new int[] {5}, 1 + (1L << 32), new int[] {5});
        checkSentBack("a longer value", 1, new int[] {5}, 1, new int[] {5, 0});
        checkSentBack("a longer value than none", 1, new int[0], 1, new int[] {0});
        checkSentBack("a greater byte", 1, new int[] {5, 5}, 1, new int[] {5, 6});
        checkSentBack("a greater last byte", 1, new int[8], 1, new int[] {0, 0, 0, 0, 0, 0, 0, 1});
    }

    /** Store 0 gives an entry of which store 1 has a newer one, beside one that both have. */
    private static void checkSentBack(String what, long stamp, int[] bytes, long newerStamp, int[] newerBytes) {
        TreeGossip x = new TreeGossip();
        Scenes.put(x, 0, 62, 3, 0x21);
        Scenes.put(x, 1, 62, 3, 0x21);
        Scenes.put(x, 0, 63, stamp, bytes);
        Scenes.put(x, 1, 63, newerStamp, newerBytes);
        Scenes.askAndStep(x, 5);
        Check.equal(what + ", one answer", x.count(3), 1);
        Scenes.checkMessage(what, x, 0, 0, BACK, 3, 15, 63);
        x.step(0);
        Scenes.checkEntry(what, x, 0, 63, newerStamp, newerBytes);
    }

    @About(promise = 7, sentence = "and then, if it has entries of that leaf that the message has not just so, sends them: BACK.")
    static void nothingIsSentBackIfTheGiveHasAllJustSo() {
        TreeGossip x = new TreeGossip();
        Scenes.put(x, 0, 0, 2);
        Scenes.put(x, 0, 1, 1, 0x21);
        Scenes.put(x, 0, 3, 1, 0x21);
        Scenes.put(x, 1, 0, 1, 0x21);
        Scenes.put(x, 1, 1, 1, 0x21);
        Scenes.askAndStep(x, 4);
        Check.equal("got", x.step(1), GIVE);
        Check.equal("the same by now", x.same(), true);
        Scenes.checkCounts("no answer", x, 5, 0, 3, 0, 0, 3, 3);
    }

    @About(promise = 7, sentence = "if it has entries of that leaf that the message has not just so,")
    static void entriesOfOtherLeavesAreNotSentBack() {
        TreeGossip x = new TreeGossip();
        Scenes.put(x, 0, 8, 1, 0x21);
        Scenes.put(x, 1, 7, 1, 0x21);
        Scenes.put(x, 1, 12, 1, 0x21);
        Scenes.askAndStep(x, 4);
        x.lose(1);
        Scenes.checkMessage("GIVE between them", x, 1, 0, GIVE, 3, 2, 8);
        Check.equal("got", x.step(1), GIVE);
        Check.equal("no answer", x.count(3), 0);
    }

    @About(promise = 7, sentence = "if it has entries of that leaf that the message has not just so,")
    static void aGiveOfFourOlderEntriesBringsFourBack() {
        TreeGossip x = new TreeGossip();
        for (int key = 252; key < 256; key++) {
            Scenes.put(x, 0, key, 1, 0x21);
            Scenes.put(x, 1, key, 2, 0x22);
        }
        Scenes.askAndStep(x, 5);
        Scenes.checkMessage("BACK", x, 0, 0, BACK, 3, 63, 252, 253, 254, 255);
        Check.equal("entries sent", x.count(2), 8);
    }

    // BACK

    @About(promise = 7, sentence = "3 BACK of a leaf: some entries. Who gets it merges them.")
    static void aBackIsMergedAndNotAnswered() {
        TreeGossip x = Scenes.withBack();
        Check.equal("got", x.step(0), BACK);
        Scenes.checkEntry("a newer one", x, 0, 2, 6, 0x06);
        Scenes.checkEntry("a new one", x, 0, 3, 4, 0x04);
        Scenes.checkEntry("one that it has not", x, 0, 0, 5, 0x05);
        Check.equal("the same by now", x.same(), true);
        Scenes.checkCounts("no answer", x, 6, 0, 5, 0, 0, 4, 4);
    }

    @About(promise = 7, sentence = "3 BACK of a leaf: some entries. Who gets it merges them.")
    static void anOlderEntryOfABackStaysOutside() {
        TreeGossip x = Scenes.withBack();
        Scenes.put(x, 0, 2, 7, 0x07);
        Scenes.put(x, 0, 3, 4, 0x05);
        Check.equal("got", x.step(0), BACK);
        Scenes.checkEntry("by its stamp", x, 0, 2, 7, 0x07);
        Scenes.checkEntry("by its byte", x, 0, 3, 4, 0x05);
        Check.equal("no answer all the same", x.count(4), 0);
    }

    // All of them

    @About(promise = 7, sentence = "for each child in order for which its own hash is another one: a LIST of that child, or, if it is a leaf, GIVE.")
    static void alikeInTheEnd() {
        TreeGossip x = new TreeGossip();
        for (int key = 0; key < 256; key += 3) {
            x.put(key % 2, key, key % 7, key * 0x0102030405060708L, key % 9);
        }
        for (int key = 0; key < 256; key += 5) {
            x.put(1 - key % 2, key, key % 4, key * 0x0807060504030201L, key % 8);
        }
        x.start(0);
        Check.equal("unlike", x.same(), false);
        x.run(1000);
        Check.equal("no message is left", x.count(3) + x.count(4), 0);
        Check.equal("alike", x.same(), true);
        Check.equal("hashes alike", x.hash(0, 0, 0), x.hash(1, 0, 0));
        x.start(1);
        Check.equal("nothing more to tell", x.run(1000), 1);
    }
}
