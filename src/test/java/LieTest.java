/** Promise 8. */
public final class LieTest {
    private static final Due DUE = new Due("LieTest");

    public static void main(String[] args) {
        wrongNumbers();
        onceOfAKind();
        againAtTheNextHeight();
        countsAsAVote();
        onlyTheLeaderProposes();
        differentProposals();
        DUE.end();
    }

    private static void wrongNumbers() {
        ShardLedger x = new ShardLedger(2);
        x.submit(0, 1, 30);
        int messages = x.messages(1);
        int[][] wrong = {{0, 1, 0, 0, 0}, {-1, 1, 0, 0, 0}, {2, 1, 0, 0, 0}, {1, -1, 0, 0, 0}, {1, 3, 0, 0, 0},
            {1, 1, -1, 0, 0}, {1, 1, 6, 0, 0}, {1, 1, 0, -2, 0}, {1, 1, 0, 2, 0}, {1, 0, 0, -1, 0}, {1, 1, 0, 0, -1},
            {1, 1, 0, 0, 3}, {1, 1, 0, 0, 4}, {1, 1, 0, Integer.MAX_VALUE, 0}, {1, 1, 0, Integer.MIN_VALUE, 0},
            {Integer.MAX_VALUE, 1, 0, 0, 0}, {1, Integer.MIN_VALUE, 0, 0, 0}, {1, 1, Integer.MAX_VALUE, 0, 0},
            {1, 1, 0, 0, Integer.MAX_VALUE}};
        for (int[] w : wrong) {
            String call = "lie(" + w[0] + ", " + w[1] + ", " + w[2] + ", " + w[3] + ", " + w[4] + ")";
            DUE.no(call, x.lie(w[0], w[1], w[2], w[3], w[4]));
        }
        DUE.is("messages(1)", x.messages(1), messages);
        DUE.yes("a request of the other shard is one, too", x.lie(1, 1, 0, 0, 0));
        DUE.yes("the last request", x.lie(1, 1, 1, 1, 0));
        DUE.yes("none", x.lie(1, 2, 5, -1, 0));
        DUE.yes("the last replica", x.lie(1, 2, 5, -1, 2));
    }

    private static void onceOfAKind() {
        ShardLedger x = new ShardLedger(1);
        x.submit(0, -1, 30);
        int messages = x.messages(0);
        for (int kind = 0; kind < 3; kind++) {
            DUE.yes("first of kind " + kind, x.lie(0, kind, 5, 0, 0));
            DUE.no("second of kind " + kind, x.lie(0, kind, 5, 0, 0));
            DUE.no("none of kind " + kind, x.lie(0, kind, 5, -1, 0));
            DUE.yes("another round", x.lie(0, kind, 4, 0, 0));
            DUE.yes("another hearer", x.lie(0, kind, 5, 0, 1));
        }
        DUE.is("a lie is no message of the shard", x.messages(0), messages);
        DUE.replica("one sender does not lift anybody", x, 0, 0, 0, 0, 1, -1, -1, -1, -1);
    }

    private static void againAtTheNextHeight() {
        ShardLedger x = new ShardLedger(1);
        x.submit(0, -1, 30);
        DUE.yes("at height 0", x.lie(0, 1, 0, -1, 0));
        x.flood(0);
        DUE.is("height", x.replica(0, 0, 0), 1);
        DUE.yes("at height 1", x.lie(0, 1, 0, -1, 0));
        DUE.no("at height 1 again", x.lie(0, 1, 0, -1, 0));
        DUE.yes("vote", x.tick(0, 0));
        x.tick(0, 1);
        x.deliver(0, x.messages(0) - 1, 0);
        DUE.replica("the lie has the hearer's height", x, 0, 0, 1, 0, 2, -1, -1, -1, -1);
        DUE.no("the faulty one executes nothing", x.replica(0, 3, 0) != 0);
    }

    private static void countsAsAVote() {
        ShardLedger x = new ShardLedger(1);
        x.submit(0, -1, 30);                                            // 0 proposal and 1 vote of replica 0
        x.deliver(0, 0, 1);                                             // 2 vote of 1
        x.deliver(0, 2, 0);
        DUE.replica("two votes", x, 0, 0, 0, 0, 1, -1, -1, -1, -1);
        DUE.yes("the third vote", x.lie(0, 1, 0, 0, 0));                // 3 seal of 0
        DUE.replica("three votes", x, 0, 0, 0, 0, 2, 0, 0, 0, 0);
        x.deliver(0, 1, 1);
        DUE.yes("a vote for none", x.lie(0, 1, 0, -1, 1));
        DUE.replica("no three votes for one thing", x, 0, 1, 0, 0, 1, -1, -1, -1, -1);
        DUE.yes("votes of three senders", x.tick(0, 1));                // 4 seal of none of 1
        DUE.yes("a seal", x.lie(0, 2, 0, 0, 0));
        x.deliver(0, 4, 0);
        DUE.replica("two seals and one of none", x, 0, 0, 0, 0, 2, 0, 0, 0, 0);
        DUE.yes("seals of three senders", x.tick(0, 0));
        DUE.replica("lock and candidate stay", x, 0, 0, 0, 1, 0, 0, 0, 0, 0);
    }

    private static void onlyTheLeaderProposes() {
        ShardLedger x = new ShardLedger(1);
        x.sleep(0, 0, true);
        x.submit(0, -1, 30);
        DUE.yes("replica 3 does not lead round 0", x.lie(0, 0, 0, 0, 1));
        DUE.no("but it was taken", x.lie(0, 0, 0, 0, 1));
        DUE.replica("it counts as no message", x, 0, 1, 0, 0, 0, -1, -1, -1, -1);
        x.sleep(0, 0, false);                                           // 0 proposal and 1 vote of replica 0
        DUE.yes("the leader's counts", x.deliver(0, 0, 1));
        DUE.is("step", x.replica(0, 1, 2), 1);
        ShardLedger y = new ShardLedger(1);
        toRound(y, 1);
        y.submit(0, -1, 30);                                            // 6 proposal and 7 vote of replica 1
        DUE.message("round 1", y, 0, 6, 0, 1, 0, 1, 0, -1);
        y.deliver(0, 6, 0);
        DUE.yes("a proposal in round 2", y.lie(0, 0, 2, 0, 0));
        DUE.yes("a proposal in round 3, that it leads", y.lie(0, 0, 3, 0, 0));
        DUE.yes("and its vote", y.lie(0, 1, 3, 0, 0));
        DUE.replica("all of one sender", y, 0, 0, 0, 1, 1, -1, -1, -1, -1);
    }

    /** In round 3 of height 0 the liar leads, and tells each replica something else. */
    private static void differentProposals() {
        ShardLedger x = new ShardLedger(1);
        toRound(x, 3);
        x.submit(0, -1, 30);
        x.submit(2, -1, 30);
        x.submit(1, -1, 30);
        DUE.is("no leader, no proposal", x.messages(0), 18);
        DUE.yes("one request", x.lie(0, 0, 3, 1, 0));
        DUE.yes("another", x.lie(0, 0, 3, 0, 1));
        DUE.yes("one of the other shard", x.lie(0, 0, 3, 2, 2));
        DUE.message("vote of 0", x, 0, 18, 1, 0, 0, 3, 1, -1);
        DUE.message("vote of 1", x, 0, 19, 1, 1, 0, 3, 0, -1);
        DUE.message("vote of 2", x, 0, 20, 1, 2, 0, 3, -1, -1);
        DUE.is("messages(0)", x.messages(0), 21);
    }

    /** From the beginning, without requests, replicas 0 to 2 of shard 0 go on by three votes and seals for none. */
    static void toRound(ShardLedger x, int round) {
        for (int r = 0; r < round; r++) {
            for (int i = 0; i < 3; i++) {
                x.tick(0, i);
            }
            x.flood(0);
            for (int i = 0; i < 3; i++) {
                x.tick(0, i);
            }
        }
    }
}
