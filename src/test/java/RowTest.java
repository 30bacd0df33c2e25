import java.util.Arrays;
import java.util.function.ToIntBiFunction;

/** The two rows of messages, and what sends, loses and shows them: promises 6 to 8 and 10. */
public final class RowTest {
    private static final int NONE = Scenes.NONE;
    private static final int ASK = Scenes.ASK;
    private static final int LIST = Scenes.LIST;
    private static final int GIVE = Scenes.GIVE;
    private static final int BACK = Scenes.BACK;

    public static void main(String[] args) {
        Sentences.test(RowTest.class);
    }

    // Rows and their room

    @About(promise = 6, sentence = "Those to store 0 stand in a row, those to store 1 in another one, each up to 100;")
    static void eachRowHasRoomForAHundred() {
        for (int store = 0; store < 2; store++) {
            TreeGossip x = new TreeGossip();
            for (int i = 0; i < 100; i++) {
                Check.equal("message " + i, x.start(1 - store), true);
                Check.equal("in the row", x.count(3 + store), i + 1);
            }
            Check.equal("the 101st", x.start(1 - store), false);
            Check.equal("in the row", x.count(3 + store), 100);
        }
    }

    @About(promise = 6, sentence = "Those to store 0 stand in a row, those to store 1 in another one, each up to 100;")
    static void aFullRowLeavesTheOtherOneItsRoom() {
        TreeGossip x = new TreeGossip();
        Scenes.askTimes(x, 0, 100);
        Check.equal("the other row has room", x.start(0), true);
        Scenes.askTimes(x, 1, 99);
        Check.equal("both are full, to store 0", x.start(1), false);
        Check.equal("both are full, to store 1", x.start(0), false);
        Scenes.checkCounts("of full rows", x, 202, 2, 0, 100, 100, 0, 0);
    }

    @About(promise = 6, sentence = "a message to a full row is lost.")
    static void anAskToAFullRowIsLost() {
        TreeGossip x = new TreeGossip();
        Scenes.askTimes(x, 0, 100);
        Scenes.put(x, 1, 7, 1, 0x21);
        Check.equal("no room", x.start(1), false);
        for (int i = 0; i < 100; i++) {
            Check.equal("message " + i, x.step(0), ASK);
        }
        Check.equal("none of them has the later hash", x.count(4), 0);
        Check.equal("none is left", x.step(0), NONE);
    }

    @About(promise = 7, sentence = "a message to a full row is lost.")
    static void aListToAFullRowIsLost() {
        TreeGossip x = new TreeGossip();
        Scenes.put(x, 0, 7, 1, 0x21);
        x.start(0);
        Scenes.askTimes(x, 0, 100);
        Check.equal("got all the same", x.step(1), ASK);
        checkFullOfAsks(x, 0);
        Scenes.checkCounts("after it", x, 102, 1, 0, 100, 0, 1, 0);
    }

    @About(promise = 7, sentence = "a message to a full row is lost.")
    static void aGiveToAFullRowIsLost() {
        TreeGossip x = Scenes.withListOfLeaves();
        Scenes.askTimes(x, 1, 100);
        Check.equal("got all the same", x.step(0), LIST);
        checkFullOfAsks(x, 1);
        Scenes.checkCounts("after it", x, 105, 1, 3, 0, 100, 3, 3);
    }

    @About(promise = 7, sentence = "a message to a full row is lost.")
    static void aBackToAFullRowIsLost() {
        TreeGossip x = Scenes.withGive();
        Scenes.askTimes(x, 0, 100);
        Check.equal("got all the same", x.step(1), GIVE);
        Scenes.checkEntry("merged all the same", x, 1, 0, 5, 0x05);
        checkFullOfAsks(x, 0);
        Scenes.checkCounts("after it", x, 106, 1, 5, 100, 0, 3, 4);
    }

    private static void checkFullOfAsks(TreeGossip x, int store) {
        for (int k = 0; k < 100; k++) {
            Check.equal("message " + k, x.message(store, k, 0), ASK);
        }
        Check.fails("message 100", IndexOutOfBoundsException.class, () -> x.message(store, 100, 0));
    }

    @About(promise = 7, sentence = "a message to a full row is lost.")
    static void theFirstAnswersFillTheRowAndTheLaterOnesAreLost() {
        for (int room = 0; room <= 4; room++) {
            TreeGossip x = unlikeInFour(64);
            Scenes.askAndStep(x, 1);
            Scenes.askTimes(x, 1, 100 - room);
            Check.equal("got", x.step(0), LIST);
            Check.equal("lost", x.count(1), 4 - room);
            Check.equal("sent", x.count(0), 2 + 100 - room + 4);
            Check.equal("in the row", x.count(4), 100);
            for (int i = 0; i < room; i++) {
                Scenes.checkMessage("answer " + i, x, 1, 100 - room + i, LIST, 1, i);
            }
        }
    }

    @About(promise = 7, sentence = "a message to a full row is lost.")
    static void theFirstGivesFillTheRowAndTheLaterOnesAreLost() {
        TreeGossip x = unlikeInFour(4);
        Scenes.askAndStep(x, 3);
        Scenes.askTimes(x, 1, 98);
        x.step(0);
        Scenes.checkMessage("the first", x, 1, 98, GIVE, 3, 0, 0);
        Scenes.checkMessage("the second", x, 1, 99, GIVE, 3, 1, 4);
        Scenes.checkCounts("after them", x, 106, 2, 4, 0, 100, 4, 0);
    }

    /** Store 0 has four keys with so many from one to the next. */
    private static TreeGossip unlikeInFour(int apart) {
        TreeGossip x = new TreeGossip();
        for (int i = 0; i < 4; i++) {
            Scenes.put(x, 0, i * apart, 1, 0x21);
        }
        return x;
    }

    @About(promise = 6, sentence = "each up to 100;")
    static void aRowThatWasFullHasRoomForAsManyAsWereTaken() {
        TreeGossip x = new TreeGossip();
        Scenes.askTimes(x, 0, 100);
        x.step(0);
        Check.equal("after step", x.start(1), true);
        Check.equal("full again", x.start(1), false);
        x.lose(0);
        x.lose(0);
        Check.equal("after lose", x.start(1), true);
        Check.equal("and once more", x.start(1), true);
        Check.equal("full again", x.start(1), false);
        x.run(1);
        Check.equal("after run", x.start(1), true);
        Check.equal("full again", x.start(1), false);
    }

    @About(promise = 10, sentence = "each up to 100;")
    static void aRowGoesRoundItsRoom() {
        TreeGossip x = new TreeGossip();
        Scenes.put(x, 0, 0, 1, 0x21);
        Scenes.askTimes(x, 0, 70);
        for (int i = 0; i < 65; i++) {
            x.lose(0);
        }
        Scenes.askAndStep(x, 1);
        Scenes.askTimes(x, 0, 93);
        Check.equal("the 100th", x.start(1), true);
        Check.equal("the 101st", x.start(1), false);
        Scenes.checkMessage("before", x, 0, 4, ASK, 0, 0);
        Scenes.checkMessage("the LIST", x, 0, 5, LIST, 0, 0);
        Scenes.checkMessage("behind", x, 0, 6, ASK, 0, 0);
        Scenes.checkMessage("the last", x, 0, 99, ASK, 0, 0);
    }

    @About(promise = 7, sentence = "each up to 100;")
    static void aMessageKeepsItsEntriesWhileTheRowGoesRound() {
        TreeGossip x = new TreeGossip();
        Scenes.askTimes(x, 1, 99);
        for (int i = 0; i < 99; i++) {
            x.lose(1);
        }
        for (int i = 0; i < 4; i++) {
            Scenes.put(x, 0, 4 * i + i, i, 0x30 + i);
        }
        Scenes.askAndStep(x, 4);
        for (int i = 0; i < 4; i++) {
            Scenes.checkMessage("GIVE " + i, x, 1, i, GIVE, 3, i, 5 * i);
        }
        x.run(1000);
        for (int i = 0; i < 4; i++) {
            Scenes.checkEntry("got " + i, x, 1, 5 * i, i, 0x30 + i);
        }
    }

    // What messages have

    @About(promise = 7, sentence = "What they have is what there was when they were sent.")
    static void anAskHasTheHashOfItsTime() {
        TreeGossip x = new TreeGossip();
        Scenes.put(x, 0, 7, 1, 0x21);
        x.start(0);
        Scenes.put(x, 1, 7, 1, 0x21);
        Scenes.put(x, 0, 8, 1, 0x21);
        x.step(1);
        Check.equal("alike with the sender as it was", x.count(3), 0);

        TreeGossip y = new TreeGossip();
        Scenes.put(y, 0, 7, 1, 0x21);
        y.start(0);
        Scenes.put(y, 1, 7, 2, 0x21);
        Scenes.put(y, 0, 7, 2, 0x21);
        y.step(1);
        Check.equal("alike only with the sender as it is", y.count(3), 1);
    }

    @About(promise = 7, sentence = "What they have is what there was when they were sent.")
    static void aListHasTheHashesOfItsTime() {
        for (int level = 0; level < 3; level++) {
            int getter = level % 2;
            for (int stamp = 1; stamp <= 2; stamp++) {
                TreeGossip x = new TreeGossip();
                Scenes.put(x, 1 - getter, 7, 1, 0x21);
                Scenes.askAndStep(x, level + 1);
                Scenes.put(x, 1 - getter, 7, 2, 0x21);
                Scenes.put(x, getter, 7, stamp, 0x21);
                Check.equal("got", x.step(getter), LIST);
                // Stamp 1 is what the sender had, 2 is what it has by now.
                Check.equal("answers to level " + level + ", stamp " + stamp, x.count(4 - getter), stamp - 1);
            }
        }
    }

    @About(promise = 7, sentence = "What they have is what there was when they were sent.")
    static void aGiveHasTheEntriesOfItsTime() {
        TreeGossip x = Scenes.withGive();
        Scenes.put(x, 0, 0, 7, 0x07);
        Scenes.put(x, 0, 3, 7, 0x07);
        Scenes.checkMessage("its keys", x, 1, 0, GIVE, 3, 0, 0, 1, 2);
        x.step(1);
        Scenes.checkEntry("the entry as it was", x, 1, 0, 5, 0x05);
        Scenes.checkEntry("not one that came later", x, 1, 3, 4, 0x04);
    }

    @About(promise = 7, sentence = "What they have is what there was when they were sent.")
    static void aBackHasTheEntriesOfItsTime() {
        TreeGossip x = Scenes.withBack();
        Scenes.put(x, 1, 2, 8, 0x08);
        Scenes.put(x, 1, 0, 8, 0x08);
        Scenes.checkMessage("its keys", x, 0, 0, BACK, 3, 0, 2, 3);
        x.step(0);
        Scenes.checkEntry("the entry as it was", x, 0, 2, 6, 0x06);
        Scenes.checkEntry("not one that came later", x, 0, 0, 5, 0x05);
    }

    // Promise 6

    @About(promise = 6, sentence = "A store sends ASK to the other one: whether there was room.")
    static void startSendsToTheOtherStore() {
        for (int store = 0; store < 2; store++) {
            TreeGossip x = new TreeGossip();
            Check.equal("start", x.start(store), true);
            Check.equal("to the other store", x.count(4 - store), 1);
            Check.equal("not to itself", x.count(3 + store), 0);
            Scenes.checkMessage("ASK", x, 1 - store, 0, ASK, 0, 0);
        }
    }

    @About(promise = 6, sentence = "A store sends ASK to the other one: whether there was room.")
    static void startTellsTheLastRoomAndTheWantOfIt() {
        TreeGossip x = new TreeGossip();
        Scenes.askTimes(x, 1, 99);
        Check.equal("the last room", x.start(0), true);
        Check.equal("no room", x.start(0), false);
        Check.equal("still no room", x.start(0), false);
        Check.equal("in the row", x.count(4), 100);
    }

    // Promise 7

    @About(promise = 7, sentence = "A store gets the oldest message to it: its kind; NONE if there is none.")
    static void stepGetsTheOldest() {
        TreeGossip x = Scenes.withGive();
        x.start(0);
        Check.equal("the older one", x.step(1), GIVE);
        Check.equal("one is left", x.count(4), 1);
        Check.equal("the younger one", x.step(1), ASK);
        Check.equal("none is left", x.count(4), 0);
        Check.equal("none", x.step(1), NONE);
    }

    @About(promise = 7, sentence = "NONE if there is none.")
    static void stepWithoutAMessageChangesNothing() {
        checkWithoutAMessage(TreeGossip::step);
    }

    private static void checkWithoutAMessage(ToIntBiFunction<TreeGossip, Integer> taking) {
        TreeGossip x = Scenes.withGive();
        Check.equal("no message to store 0", taking.applyAsInt(x, 0), NONE);
        Check.equal("nothing else", Scenes.story(x), Scenes.story(Scenes.withGive()));
        TreeGossip y = new TreeGossip();
        Check.equal("no message to store 1", taking.applyAsInt(y, 1), NONE);
        Scenes.checkAsAtFirst("after it", y);
    }

    @About(promise = 7, sentence = "A store gets the oldest message to it: its kind;")
    static void stepTellsEachKind() {
        TreeGossip x = new TreeGossip();
        Scenes.put(x, 0, 7, 1, 0x21);
        x.start(1);
        Check.equal("ASK", x.step(0), 0);
        Check.equal("LIST of level 0", x.step(1), 1);
        Check.equal("LIST of level 1", x.step(0), 1);
        Check.equal("LIST of level 2", x.step(1), 1);
        Check.equal("GIVE", x.step(0), 2);
        Check.equal("BACK", x.step(1), 3);
    }

    // Promise 8

    @About(promise = 8, sentence = "The oldest message to a store is lost: its kind; NONE if there is none.")
    static void loseTakesTheOldest() {
        TreeGossip x = new TreeGossip();
        Scenes.put(x, 0, 7, 1, 0x21);
        Scenes.askAndStep(x, 1);
        x.start(1);
        Check.equal("the older one", x.lose(0), LIST);
        Scenes.checkMessage("the younger one is left", x, 0, 0, ASK, 0, 0);
        Check.equal("the younger one", x.lose(0), ASK);
        Check.equal("none", x.lose(0), NONE);
        Scenes.checkCounts("after all", x, 3, 0, 0, 0, 0, 1, 0);
    }

    @About(promise = 8, sentence = "NONE if there is none.")
    static void loseWithoutAMessageChangesNothing() {
        checkWithoutAMessage(TreeGossip::lose);
    }

    @About(promise = 8, sentence = "The oldest message to a store is lost: its kind;")
    static void aLostMessageIsNotAnswered() {
        TreeGossip x = new TreeGossip();
        Scenes.put(x, 0, 7, 1, 0x21);
        x.start(0);
        Check.equal("ASK", x.lose(1), ASK);
        Check.equal("no answer to ASK", x.count(3), 0);
        TreeGossip y = Scenes.withListOfLeaves();
        Check.equal("LIST", y.lose(0), LIST);
        Check.equal("no answer to LIST", y.count(4), 0);
        TreeGossip z = Scenes.withGive();
        Check.equal("GIVE", z.lose(1), GIVE);
        Check.equal("no answer to GIVE", z.count(3), 0);
    }

    @About(promise = 8, sentence = "The oldest message to a store is lost: its kind;")
    static void aLostMessageIsNotMerged() {
        TreeGossip x = Scenes.withGive();
        Check.equal("GIVE", x.lose(1), GIVE);
        Scenes.checkNoEntry("of GIVE", x, 1, 0);
        TreeGossip y = Scenes.withBack();
        Check.equal("BACK", y.lose(0), BACK);
        Scenes.checkNoEntry("of BACK", y, 0, 3);
    }

    // Promise 10

    @About(promise = 10, sentence = "Of the k-th message (from 0, the oldest) to a store:")
    static void messagesAreNumberedFromTheOldestOn() {
        TreeGossip x = Scenes.withBack();
        x.start(1);
        Scenes.askTimes(x, 1, 2);
        Scenes.checkMessage("the oldest", x, 0, 0, BACK, 3, 0, 2, 3);
        Scenes.checkMessage("the youngest", x, 0, 1, ASK, 0, 0);
        Check.fails("one more", IndexOutOfBoundsException.class, () -> x.message(0, 2, 0));
        Check.fails("one before", IndexOutOfBoundsException.class, () -> x.message(0, -1, 0));
        x.lose(0);
        Scenes.checkMessage("the oldest by now", x, 0, 0, ASK, 0, 0);
        Check.fails("one more by now", IndexOutOfBoundsException.class, () -> x.message(0, 1, 0));
    }

    @About(promise = 10, sentence = "Of the k-th message (from 0, the oldest) to a store:")
    static void theLastMessageOfAFullRowIsNumber99() {
        TreeGossip x = new TreeGossip();
        Scenes.put(x, 0, 255, 1, 0x21);
        x.start(0);
        Scenes.askTimes(x, 0, 99);
        x.step(1);
        Scenes.checkMessage("number 98", x, 0, 98, ASK, 0, 0);
        Scenes.checkMessage("number 99", x, 0, 99, LIST, 0, 0);
        Check.fails("number 100", IndexOutOfBoundsException.class, () -> x.message(0, 100, 0));
    }

    @About(promise = 10, sentence = "what = 0 its kind, 1 its level, 2 its node,")
    static void levelsAndNodesAreThoseOfTheWay() {
        TreeGossip x = new TreeGossip();
        Scenes.put(x, 0, 255, 1);
        x.start(0);
        Scenes.checkMessage("ASK", x, 1, 0, 0, 0, 0);
        x.step(1);
        Scenes.checkMessage("LIST of level 0", x, 0, 0, 1, 0, 0);
        x.step(0);
        Scenes.checkMessage("LIST of level 1", x, 1, 0, 1, 1, 3);
        x.step(1);
        Scenes.checkMessage("LIST of level 2", x, 0, 0, 1, 2, 15);
        x.step(0);
        Scenes.checkMessage("GIVE", x, 1, 0, 2, 3, 63, 255);
        Scenes.put(x, 1, 252, 1);
        x.step(1);
        Scenes.checkMessage("BACK", x, 0, 0, 3, 3, 63, 252);
    }

    @About(promise = 10, sentence = "3 how many entries it has; 4 to 7 the keys of these (NONE beyond).")
    static void aMessageHasZeroToFourEntries() {
        for (int mask = 0; mask < 16; mask++) {
            TreeGossip x = new TreeGossip();
            int[] due = {GIVE, 3, 63, 0, 0, 0, 0};
            int size = 3;
            for (int i = 0; i < 4; i++) {
                if ((mask >> i & 1) == 1) {
                    Scenes.put(x, 0, 252 + i, 1);
                    due[size++] = 252 + i;
                }
            }
            for (int i = 0; i < 4; i++) {
                Scenes.put(x, 1, 252 + i, 9);
            }
            Scenes.askAndStep(x, 4);
            Scenes.checkMessage("GIVE of " + mask, x, 1, 0, Arrays.copyOf(due, size));
        }
    }

    @About(promise = 10, sentence = "3 how many entries it has; 4 to 7 the keys of these (NONE beyond).")
    static void anAskAndAListHaveNoEntries() {
        TreeGossip x = new TreeGossip();
        for (int key = 0; key < 4; key++) {
            Scenes.put(x, 0, key, 1);
        }
        x.start(0);
        Scenes.checkMessage("ASK", x, 1, 0, ASK, 0, 0);
        for (int level = 0; level < 3; level++) {
            x.step((level + 1) % 2);
            Scenes.checkMessage("LIST", x, level % 2, 0, LIST, level, 0);
        }
    }

    @About(promise = 10, sentence = "4 to 7 the keys of these (NONE beyond).")
    static void anAskAtThePlaceOfAGiveHasNoKeys() {
        TreeGossip x = Scenes.withGive();
        x.lose(1);
        Scenes.askTimes(x, 1, 100);
        for (int k = 0; k < 100; k++) {
            Check.equal("entries of " + k, x.message(1, k, 3), 0);
            Check.equal("first key of " + k, x.message(1, k, 4), NONE);
        }
    }
}
