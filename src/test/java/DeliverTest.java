/** Promises 4 and 5. */
public final class DeliverTest {
    private static final Due DUE = new Due("DeliverTest");

    public static void main(String[] args) {
        messageByMessage();
        wrongNumbers();
        faultyAndAsleep();
        floods();
        DUE.end();
    }

    /** One request from its proposal to its execution; the numbers of the messages are in the comments. */
    private static void messageByMessage() {
        ShardLedger x = new ShardLedger(0);
        x.submit(0, -1, 30);                                            // 0 proposal and 1 vote of replica 0
        DUE.no("its own proposal", x.deliver(0, 0, 0));
        DUE.yes("deliver(0, 0, 1)", x.deliver(0, 0, 1));                // 2 vote of 1
        DUE.no("a second time", x.deliver(0, 0, 1));
        DUE.yes("deliver(0, 0, 2)", x.deliver(0, 0, 2));                // 3 vote of 2
        DUE.message("vote of 2", x, 0, 3, 1, 2, 0, 0, 0, -1);
        DUE.yes("deliver(0, 2, 0)", x.deliver(0, 2, 0));
        DUE.replica("two votes", x, 0, 0, 0, 0, 1, -1, -1, -1, -1);
        DUE.yes("deliver(0, 3, 0)", x.deliver(0, 3, 0));                // 4 seal of 0
        DUE.replica("three votes", x, 0, 0, 0, 0, 2, 0, 0, 0, 0);
        DUE.message("seal of 0", x, 0, 4, 2, 0, 0, 0, 0, -1);
        DUE.yes("votes without the proposal", x.deliver(0, 1, 3) && x.deliver(0, 2, 3) && x.deliver(0, 3, 3));
        DUE.replica("votes without the proposal", x, 0, 3, 0, 0, 0, -1, -1, -1, -1);
        DUE.is("messages(0)", x.messages(0), 5);
        DUE.yes("the proposal behind them", x.deliver(0, 0, 3));        // 5 vote and 6 seal of 3
        DUE.replica("the proposal behind them", x, 0, 3, 0, 0, 2, 0, 0, 0, 0);
        DUE.message("vote of 3", x, 0, 5, 1, 3, 0, 0, 0, -1);
        DUE.message("seal of 3", x, 0, 6, 2, 3, 0, 0, 0, -1);
        DUE.yes("deliver(0, 1, 1)", x.deliver(0, 1, 1));
        DUE.yes("deliver(0, 5, 1)", x.deliver(0, 5, 1));                // 7 seal of 1
        DUE.is("messages(0)", x.messages(0), 8);
        DUE.yes("deliver(0, 6, 0)", x.deliver(0, 6, 0));
        DUE.replica("two seals", x, 0, 0, 0, 0, 2, 0, 0, 0, 0);
        DUE.yes("deliver(0, 7, 0)", x.deliver(0, 7, 0));
        DUE.replica("three seals", x, 0, 0, 1, 0, 0, -1, -1, -1, -1);
        DUE.is("executed(0, 0, 0)", x.executed(0, 0, 0), 0);
        DUE.is("output(0, 0, 0)", x.output(0, 0, 0), 2);
        DUE.is("output(0, 1, 0)", x.output(0, 1, 0), 1);
        DUE.yes("tick(0, 0)", x.tick(0, 0));                            // 8 vote of 0 with height 1
        DUE.message("vote with height 1", x, 0, 8, 1, 0, 1, 0, -1, -1);
        DUE.no("too high for replica 1", x.deliver(0, 8, 1));
        DUE.yes("a message of a lower height", x.deliver(0, 5, 0));
        DUE.no("the same once more", x.deliver(0, 5, 0));
        DUE.replica("a lower height changes nothing", x, 0, 0, 1, 0, 1, -1, -1, -1, -1);
        DUE.yes("seals for replica 1", x.deliver(0, 4, 1) && x.deliver(0, 6, 1));
        DUE.is("height of replica 1", x.replica(0, 1, 0), 1);
        DUE.yes("no more too high", x.deliver(0, 8, 1));
    }

    private static void wrongNumbers() {
        ShardLedger x = new ShardLedger(0);
        DUE.no("no message yet", x.deliver(0, 0, 0));
        x.submit(0, -1, 30);
        int[][] wrong = {{-1, 0, 1}, {2, 0, 1}, {0, -1, 1}, {0, 2, 1}, {0, 0, -1}, {0, 0, 4}, {1, 0, 1},
            {Integer.MAX_VALUE, 0, 1}, {Integer.MIN_VALUE, 0, 1}, {0, Integer.MAX_VALUE, 1}, {0, Integer.MIN_VALUE, 1},
            {0, 0, Integer.MAX_VALUE}, {0, 0, Integer.MIN_VALUE}};
        for (int[] w : wrong) {
            DUE.no("deliver(" + w[0] + ", " + w[1] + ", " + w[2] + ")", x.deliver(w[0], w[1], w[2]));
        }
        DUE.is("messages(0)", x.messages(0), 2);
        for (int s : new int[] {-1, 2, Integer.MAX_VALUE, Integer.MIN_VALUE}) {
            DUE.is("flood(" + s + ")", x.flood(s), ShardLedger.BAD);
        }
        DUE.is("messages(0)", x.messages(0), 2);
    }

    private static void faultyAndAsleep() {
        ShardLedger x = new ShardLedger(1);
        x.submit(0, -1, 30);
        x.submit(1, -1, 30);
        DUE.no("to the faulty one", x.deliver(0, 0, 3));
        DUE.yes("in the other shard", x.deliver(1, 0, 3));
        x.sleep(0, 1, true);
        DUE.no("to one asleep", x.deliver(0, 0, 1));
        x.sleep(0, 1, false);
        DUE.yes("to one that woke", x.deliver(0, 0, 1));
    }

    private static void floods() {
        ShardLedger x = new ShardLedger(2);
        DUE.is("flood of nothing", x.flood(0), 0);
        x.submit(0, 1, 30);
        DUE.is("nine messages to three others", x.flood(0), 27);
        DUE.is("messages(0)", x.messages(0), 9);
        DUE.is("nothing is left", x.flood(0), 0);
        DUE.is("seven messages to two others", x.flood(1), 14);
        DUE.is("messages(1)", x.messages(1), 7);
        for (int i = 0; i < 4; i++) {
            DUE.is("height " + i, x.replica(0, i, 0), 1);
            DUE.is("height in shard 1 " + i, x.replica(1, i, 0), i == 3 ? 0 : 1);
        }
        laterPasses();
    }

    /** What is too high for a replica in one pass may be taken in the next. */
    private static void laterPasses() {
        ShardLedger x = new ShardLedger(0);
        x.sleep(0, 3, true);
        x.submit(0, -1, 30);
        x.submit(2, -1, 30);
        DUE.is("two requests among three", x.flood(0), 28);
        DUE.is("messages(0)", x.messages(0), 14);
        x.sleep(0, 3, false);
        DUE.is("height of the sleeper", x.replica(0, 3, 0), 0);
        DUE.yes("the flood brings it all", x.flood(0) >= 14);
        DUE.replica("the sleeper", x, 0, 3, 2, 0, 0, -1, -1, -1, -1);
        DUE.is("first", x.executed(0, 3, 0), 0);
        DUE.is("second", x.executed(0, 3, 1), 1);
        DUE.is("none", x.executed(0, 3, 2), -1);
    }
}
