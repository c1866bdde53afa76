/** Promise 6. */
public final class TickTest {
    private static final Due DUE = new Due("TickTest");

    public static void main(String[] args) {
        stepByStep();
        threeVotesForNone();
        sixRounds();
        wrongNumbers();
        DUE.end();
    }

    private static void stepByStep() {
        ShardLedger x = new ShardLedger(0);
        x.submit(0, -1, 30);                                            // 0 proposal and 1 vote of replica 0
        DUE.no("one vote is not enough", x.tick(0, 0));
        DUE.yes("step 0", x.tick(0, 1));                                // 2 vote for none of 1
        DUE.message("vote for none", x, 0, 2, 1, 1, 0, 0, -1, -1);
        DUE.replica("vote for none", x, 0, 1, 0, 0, 1, -1, -1, -1, -1);
        DUE.yes("step 0", x.tick(0, 2));                                // 3 vote for none of 2
        x.deliver(0, 2, 0);
        DUE.no("two votes are not enough", x.tick(0, 0));
        x.deliver(0, 3, 0);
        DUE.replica("votes for different things", x, 0, 0, 0, 0, 1, -1, -1, -1, -1);
        DUE.yes("votes of three senders", x.tick(0, 0));                // 4 seal of none of 0
        DUE.message("seal of none", x, 0, 4, 2, 0, 0, 0, -1, -1);
        DUE.replica("seal of none", x, 0, 0, 0, 0, 2, -1, -1, -1, -1);
        DUE.no("one seal is not enough", x.tick(0, 0));
        x.deliver(0, 1, 1);
        x.deliver(0, 3, 1);
        DUE.yes("tick(0, 1)", x.tick(0, 1));                            // 5 seal of none of 1
        x.deliver(0, 1, 2);
        x.deliver(0, 2, 2);
        DUE.yes("tick(0, 2)", x.tick(0, 2));                            // 6 seal of none of 2
        x.deliver(0, 5, 0);
        DUE.no("two seals are not enough", x.tick(0, 0));
        x.deliver(0, 6, 0);
        DUE.yes("seals of three senders", x.tick(0, 0));
        DUE.replica("next round", x, 0, 0, 0, 1, 0, -1, -1, -1, -1);
        DUE.is("messages(0)", x.messages(0), 7);
        x.deliver(0, 4, 1);
        x.deliver(0, 6, 1);
        DUE.yes("the leader of round 1", x.tick(0, 1));                 // 7 proposal and 8 vote of 1
        DUE.message("proposal in round 1", x, 0, 7, 0, 1, 0, 1, 0, -1);
        DUE.message("vote in round 1", x, 0, 8, 1, 1, 0, 1, 0, -1);
        DUE.replica("the leader of round 1", x, 0, 1, 0, 1, 1, -1, -1, -1, -1);
        DUE.yes("step 0 in round 1", x.tick(0, 0));
        DUE.message("vote with its round", x, 0, 9, 1, 0, 0, 1, -1, -1);
        DUE.no("votes of round 0 do not count in round 1", x.tick(0, 0));
    }

    /** Then it seals none without a tick. */
    private static void threeVotesForNone() {
        ShardLedger x = new ShardLedger(0);
        x.tick(1, 1);
        x.tick(1, 2);
        x.tick(1, 3);
        x.deliver(1, 1, 1);
        DUE.is("messages(1)", x.messages(1), 3);
        x.deliver(1, 2, 1);
        DUE.message("seal of none", x, 1, 3, 2, 1, 0, 0, -1, -1);
        DUE.replica("seal of none", x, 1, 1, 0, 0, 2, -1, -1, -1, -1);
        DUE.is("messages(0)", x.messages(0), 0);
    }

    private static void sixRounds() {
        ShardLedger x = new ShardLedger(2);
        for (int r = 0; r < 6; r++) {
            for (int i = 0; i < 3; i++) {
                DUE.replica("round " + r, x, 1, i, 0, r, 0, -1, -1, -1, -1);
                DUE.yes("vote for none", x.tick(1, i));
            }
            DUE.is("six messages to two others", x.flood(1), 12);
            for (int i = 0; i < 3; i++) {
                DUE.replica("round " + r, x, 1, i, 0, r, 2, -1, -1, -1, -1);
                DUE.is("round " + r + " ends", x.tick(1, i) ? 1 : 0, r < 5 ? 1 : 0);
            }
        }
        DUE.replica("no round after 5", x, 1, 0, 0, 5, 2, -1, -1, -1, -1);
        DUE.is("messages(1)", x.messages(1), 36);
    }

    private static void wrongNumbers() {
        ShardLedger x = new ShardLedger(1);
        int[][] wrong = {{-1, 0}, {2, 0}, {0, -1}, {0, 4}, {0, 3}, {Integer.MAX_VALUE, 0}, {Integer.MIN_VALUE, 0},
            {0, Integer.MAX_VALUE}, {0, Integer.MIN_VALUE}};
        for (int[] w : wrong) {
            DUE.no("tick(" + w[0] + ", " + w[1] + ")", x.tick(w[0], w[1]));
        }
        x.sleep(1, 2, true);
        DUE.no("asleep", x.tick(1, 2));
        DUE.is("messages(0)", x.messages(0), 0);
        DUE.is("messages(1)", x.messages(1), 0);
        x.sleep(1, 2, false);
        DUE.yes("awake", x.tick(1, 2));
    }
}
