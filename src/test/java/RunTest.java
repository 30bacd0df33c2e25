/** Many messages in one call: promise 9. */
public final class RunTest {
    private static final int ASK = Scenes.ASK;
    private static final int LIST = Scenes.LIST;

    public static void main(String[] args) {
        Sentences.test(RunTest.class);
    }

    // Turns

    @About(promise = 9, sentence = "By turns both stores get their oldest messages,")
    static void storesGetMessagesByTurns() {
        int[][] left = {{3, 3}, {2, 3}, {2, 2}, {1, 2}, {1, 1}, {0, 1}, {0, 0}};
        for (int n = 0; n < left.length; n++) {
            TreeGossip x = new TreeGossip();
            Scenes.askTimes(x, 0, 3);
            Scenes.askTimes(x, 1, 3);
            Check.equal("n = " + n, x.run(n), n);
            Check.equal("to store 0 after " + n, x.count(3), left[n][0]);
            Check.equal("to store 1 after " + n, x.count(4), left[n][1]);
        }
    }

    @About(promise = 9, sentence = "By turns both stores get their oldest messages,")
    static void theOldestIsGot() {
        TreeGossip x = Scenes.withBack();
        x.start(1);
        Check.equal("one", x.run(1), 1);
        Scenes.checkMessage("the younger one is left", x, 0, 0, ASK, 0, 0);
        Scenes.checkEntry("the older one was got", x, 0, 3, 4, 0x04);
    }

    @About(promise = 9, sentence = "store 0 first")
    static void eachRunBeginsWithStoreZero() {
        TreeGossip x = new TreeGossip();
        Scenes.askTimes(x, 0, 2);
        Scenes.askTimes(x, 1, 2);
        x.run(1);
        Scenes.checkCounts("after the first run", x, 4, 0, 0, 1, 2);
        x.run(1);
        Scenes.checkCounts("after the second run", x, 4, 0, 0, 0, 2);
    }

    @About(promise = 9, sentence = "(one without any does nothing),")
    static void aStoreWithoutMessagesDoesNothing() {
        for (int store = 0; store < 2; store++) {
            TreeGossip x = new TreeGossip();
            Scenes.askTimes(x, store, 5);
            Check.equal("a turn without a message is not one of n", x.run(3), 3);
            Check.equal("left to store " + store, x.count(3 + store), 2);
            Check.equal("the others", x.run(1000), 2);
            Scenes.checkCounts("after all", x, 5, 0, 0, 0, 0, 0, 0);
        }
    }

    @About(promise = 9, sentence = "(one without any does nothing),")
    static void aStoreWithoutMessagesHasItsTurnOnceItHasOne() {
        TreeGossip x = new TreeGossip();
        Scenes.put(x, 0, 7, 1, 0x21);
        Scenes.askTimes(x, 1, 2);
        Check.equal("ASK to store 1, then the LIST that answers it", x.run(2), 2);
        Check.equal("none to store 0", x.count(3), 0);
        Check.equal("two to store 1", x.count(4), 2);
        Scenes.checkMessage("the second ASK", x, 1, 0, ASK, 0, 0);
        Scenes.checkMessage("the answer to the LIST", x, 1, 1, LIST, 1, 0);
    }

    // The end of a run

    @About(promise = 9, sentence = "until none are left,")
    static void aRunWithoutMessagesGetsNone() {
        TreeGossip x = new TreeGossip();
        Check.equal("n = 1000", x.run(1000), 0);
        Check.equal("n = 1", x.run(1), 0);
        Scenes.checkAsAtFirst("after them", x);
    }

    @About(promise = 9, sentence = "until none are left,")
    static void whatIsSentInARunIsGotInIt() {
        TreeGossip x = new TreeGossip();
        Scenes.put(x, 1, 255, 1, 0x21);
        x.start(0);
        Check.equal("ASK, three times LIST, GIVE and BACK", x.run(1000), 6);
        Scenes.checkEntry("told", x, 0, 255, 1, 0x21);
        Scenes.checkCounts("after all", x, 6, 0, 1, 0, 0, 1, 1);
    }

    @About(promise = 9, sentence = "until none are left,")
    static void fullRowsAreEmptiedWhole() {
        TreeGossip x = new TreeGossip();
        Scenes.askTimes(x, 0, 100);
        Scenes.askTimes(x, 1, 100);
        Check.equal("all", x.run(1000), 200);
        Scenes.checkCounts("after all", x, 200, 0, 0, 0, 0, 0, 0);
    }

    @About(promise = 9, sentence = "or n messages were got: how many were.")
    static void aRunOfNoneChangesNothing() {
        TreeGossip x = Scenes.withAllKinds();
        Check.equal("n = 0", x.run(0), 0);
        Check.equal("all as before", Scenes.story(x), Scenes.story(Scenes.withAllKinds()));
    }

    @About(promise = 9, sentence = "or n messages were got: how many were.")
    static void aRunEndsAtNOrBefore() {
        for (int n = 198; n <= 202; n++) {
            TreeGossip x = new TreeGossip();
            Scenes.askTimes(x, 0, 100);
            Scenes.askTimes(x, 1, 100);
            Check.equal("n = " + n, x.run(n), Math.min(n, 200));
            Check.equal("left", x.count(3) + x.count(4), 200 - Math.min(n, 200));
        }
    }

    @About(promise = 9, sentence = "or n messages were got: how many were.")
    static void aRunGetsAThousandOfMoreMessages() {
        TreeGossip x = new TreeGossip();
        Model model = new Model();
        for (int leaf = 0; leaf < 64; leaf++) {
            x.put(leaf % 2, 4 * leaf, leaf, leaf, 8);
            model.put(leaf % 2, 4 * leaf, leaf, leaf, 8);
        }
        for (int i = 0; i < 200; i++) {
            x.start(i % 2);
            model.start(i % 2);
        }
        model.run(1000);
        Check.equal("n = 1000", x.run(1000), 1000);
        Check.equal("more are left", x.count(3) + x.count(4) > 0, true);
        Check.equal("answers were lost", x.count(1) > 0, true);
        Scenes.checkCounts("after 1000", x, countsOf(model));
        Check.equal("the others", x.run(1000), model.run(1000));
        Scenes.checkCounts("after all", x, countsOf(model));
    }

    private static int[] countsOf(Model model) {
        int[] counts = new int[7];
        for (int what = 0; what < counts.length; what++) {
            counts[what] = model.count(what);
        }
        return counts;
    }
}
