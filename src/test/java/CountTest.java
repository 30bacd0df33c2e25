/** What is counted: promise 11. */
public final class CountTest {
    public static void main(String[] args) {
        Sentences.test(CountTest.class);
    }

    @About(promise = 11, sentence = "How many: what = 0 messages that were sent (also lost ones),")
    static void sentAreAlsoThoseThatFoundNoRoom() {
        TreeGossip x = new TreeGossip();
        for (int i = 1; i <= 102; i++) {
            x.start(0);
            Check.equal("sent", x.count(0), i);
        }
    }

    @About(promise = 11, sentence = "How many: what = 0 messages that were sent (also lost ones),")
    static void sentAreAlsoThoseThatWereLostOnTheirWay() {
        TreeGossip x = Scenes.withBack();
        Check.equal("before", x.count(0), 6);
        x.lose(0);
        Check.equal("after lose", x.count(0), 6);
        x.lose(0);
        Check.equal("after lose of none", x.count(0), 6);
    }

    @About(promise = 11, sentence = "How many: what = 0 messages that were sent (also lost ones),")
    static void sentAreMessagesOfBothStoresAndAllKinds() {
        TreeGossip x = new TreeGossip();
        Scenes.put(x, 1, 0, 1, 0x21);
        x.start(0);
        for (int sent = 1; sent <= 6; sent++) {
            Check.equal("sent", x.count(0), sent);
            x.step(sent % 2);
        }
        Check.equal("BACK is the last one", x.count(0), 6);
        x.start(1);
        Check.equal("an ASK of store 1", x.count(0), 7);
    }

    @About(promise = 11, sentence = "1 of these lost for want of room,")
    static void lostAreThoseThatFoundNoRoom() {
        TreeGossip x = new TreeGossip();
        Scenes.askTimes(x, 0, 100);
        Check.equal("a full row", x.count(1), 0);
        x.start(1);
        Check.equal("one more to store 0", x.count(1), 1);
        Scenes.askTimes(x, 1, 102);
        Check.equal("two more to store 1", x.count(1), 3);
    }

    @About(promise = 11, sentence = "1 of these lost for want of room,")
    static void thoseThatWereLostOnTheirWayHadRoom() {
        TreeGossip x = Scenes.withBack();
        x.lose(0);
        x.lose(0);
        x.lose(1);
        Check.equal("lost for want of room", x.count(1), 0);
    }

    @About(promise = 11, sentence = "2 entries in messages that were sent,")
    static void entriesOfGivesAndBacksAreCounted() {
        TreeGossip x = Scenes.withListOfLeaves();
        Check.equal("none in ASK and LIST", x.count(2), 0);
        x.step(0);
        Check.equal("three in GIVE", x.count(2), 3);
        x.step(1);
        Check.equal("two in BACK", x.count(2), 5);
        x.step(0);
        Check.equal("no fewer once they were got", x.count(2), 5);
    }

    @About(promise = 11, sentence = "2 entries in messages that were sent,")
    static void entriesOfLostMessagesWereSentToo() {
        TreeGossip x = Scenes.withGive();
        x.lose(1);
        Check.equal("GIVE lost on its way", x.count(2), 3);

        TreeGossip give = Scenes.withListOfLeaves();
        Scenes.askTimes(give, 1, 100);
        give.step(0);
        Check.equal("GIVE lost for want of room", give.count(2), 3);

        TreeGossip back = Scenes.withGive();
        Scenes.askTimes(back, 0, 100);
        back.step(1);
        Check.equal("BACK lost for want of room", back.count(2), 5);
    }

    @About(promise = 11, sentence = "2 entries in messages that were sent,")
    static void aMessageHasZeroToFourEntriesToCount() {
        for (int entries = 0; entries <= 4; entries++) {
            TreeGossip x = new TreeGossip();
            for (int key = 0; key < 4; key++) {
                Scenes.put(x, 1, key, 2);
                if (key < entries) {
                    Scenes.put(x, 0, key, 1);
                }
            }
            Scenes.askAndStep(x, 4);
            Check.equal("GIVE of " + entries, x.count(2), entries);
            x.step(1);
            Check.equal("and BACK of all", x.count(2), entries + 4);
        }
    }

    @About(promise = 11, sentence = "3 messages to store 0 now, 4 to store 1,")
    static void messagesNowAreThoseInEachRow() {
        TreeGossip x = new TreeGossip();
        Scenes.askTimes(x, 0, 101);
        Scenes.askTimes(x, 1, 2);
        Check.equal("a full row to store 0", x.count(3), 100);
        Check.equal("two to store 1", x.count(4), 2);
        x.step(0);
        x.lose(1);
        Check.equal("one got", x.count(3), 99);
        Check.equal("one lost", x.count(4), 1);
        x.lose(1);
        x.lose(1);
        Check.equal("never below 0", x.count(4), 0);
    }

    @About(promise = 11, sentence = "5 entries of store 0, 6 of store 1.")
    static void aStoreHasZeroTo256Entries() {
        for (int store = 0; store < 2; store++) {
            TreeGossip x = new TreeGossip();
            for (int key = 255; key >= 0; key--) {
                Check.equal("so far", x.count(5 + store), 255 - key);
                x.put(store, key, 0, 0, 0);
            }
        }
        TreeGossip full = new TreeGossip();
        for (int key = 0; key < 256; key++) {
            full.put(1, key, 0, 0, 0);
        }
        Check.equal("a full store", full.count(6), 256);
        Check.equal("the other one", full.count(5), 0);
    }

    @About(promise = 11, sentence = "5 entries of store 0, 6 of store 1.")
    static void anEntryInThePlaceOfAnotherIsNotOneMore() {
        TreeGossip x = new TreeGossip();
        Scenes.put(x, 0, 7, 1, 0x21);
        Scenes.put(x, 0, 7, 2, 0x21);
        Scenes.put(x, 0, 7, 1, 0x21);
        Check.equal("one key", x.count(5), 1);
    }

    @About(promise = 11, sentence = "5 entries of store 0, 6 of store 1.")
    static void entriesThatCameByMessagesAreCounted() {
        TreeGossip x = Scenes.withGive();
        Scenes.checkCounts("before", x, 5, 0, 3, 0, 1, 3, 3);
        x.step(1);
        Scenes.checkCounts("one came by GIVE", x, 6, 0, 5, 1, 0, 3, 4);
        x.step(0);
        Scenes.checkCounts("one came by BACK", x, 6, 0, 5, 0, 0, 4, 4);
    }
}
