/** The boundaries of acting: heights, rounds, steps, leaders, three of a thing, and the six rules. */
public final class ActingEdgesTest {
    private static final Due DUE = new Due("ActingEdgesTest");

    public static void main(String[] args) {
        lowerHeightsDoNotCount();
        threeVotes();
        threeSeals();
        leadersOfHeightsAndRounds();
        leadersOfHighHeights();
        falseLeaderIsNotVotedFor();
        falseLeaderLiftsNobody();
        falseLeaderSealsNothing();
        requestsThatAreNotGood();
        executedBeforeAnythingElse();
        afterExecution();
        joinsEachRoundAbove();
        messagesOfEachKind();
        joinsWithItsLock();
        oneSenderIsNotTwo();
        roundsNotAbove();
        nothingToPropose();
        proposesAtStepZeroAlone();
        lowestGoodRequest();
        candidateNeedsThreeVotes();
        votesForItsLockAgain();
        candidateAtStepOneOrTwo();
        threeVotesForNone();
        DUE.end();
    }

    private static void deliver(ShardLedger x, int to, int... messages) {
        for (int k : messages) {
            DUE.yes("deliver(0, " + k + ", " + to + ")", x.deliver(0, k, to));
        }
    }

    private static void tick(ShardLedger x, int... replicas) {
        for (int i : replicas) {
            DUE.yes("tick(0, " + i + ")", x.tick(0, i));
        }
    }

    /** Replica 3 sleeps while the others agree: 0 proposal, 1 to 3 votes of 0, 1, 2, 4 to 6 seals of 2, 0, 1. */
    private static Scene sleptThrough() {
        return Scene.of(0, "sleep(0, 3, true)", "submit(0, -1, 50)", "flood(0)", "sleep(0, 3, false)");
    }

    private static void lowerHeightsDoNotCount() {
        DUE.sentence("counts, at each replica, only messages that it has taken and that have its height");
        ShardLedger x = sleptThrough().play();
        deliver(x, 3, 0, 4, 5, 6);                                      // 7 vote of 3
        DUE.replica("height 1", x, 0, 3, 1, 0, 0, -1, -1, -1, -1);
        tick(x, 3);                                                     // 8 vote for none of 3
        deliver(x, 3, 1, 2, 3);
        DUE.replica("votes of height 0", x, 0, 3, 1, 0, 1, -1, -1, -1, -1);
        DUE.no("no votes of three senders with height 1", x.tick(0, 3));
        tick(x, 0, 1);                                                  // 9 and 10 votes for none of 0 and 1
        deliver(x, 3, 9);
        DUE.no("two votes with height 1", x.tick(0, 3));
        deliver(x, 3, 10);
        DUE.replica("three votes with height 1", x, 0, 3, 1, 0, 2, -1, -1, -1, -1);
    }

    private static void threeVotes() {
        DUE.sentence("THREE votes (seals) for a request, or for none, are such of three different senders.");
        Scene two = Scene.of(1, "submit(0, 1, 50)", "deliver(0, 0, 1)", "deliver(0, 2, 0)");
        DUE.answer(two, "replica(0, 0, 2)", 1);
        DUE.answer(two, "replica(0, 0, 3)", -1);
        votesOfReplica0(two, "lie(0, 1, 0, 0, 0)", 2, 0);
        votesOfReplica0(two, "lie(0, 1, 0, -1, 0)", 1, -1);
        votesOfReplica0(two, "lie(0, 1, 0, 1, 0)", 1, -1);
        votesOfReplica0(two, "lie(0, 1, 1, 0, 0)", 1, -1);
        votesOfReplica0(two, "lie(0, 2, 0, 0, 0)", 1, -1);
        votesOfReplica0(two.then("deliver(0, 0, 2)"), "deliver(0, 3, 0)", 2, 0);
    }

    private static void votesOfReplica0(Scene two, String third, int step, int lock) {
        ShardLedger x = two.then(third).play();
        DUE.replica("after " + third, x, 0, 0, 0, 0, step, lock, lock, lock, lock);
    }

    private static void threeSeals() {
        DUE.sentence("a proposal of a good request and three seals for that, all with this round");
        // 4 seal of 2, 5 seal of 0, 6 seal of 1
        Scene two = Scene.of(1, "submit(0, 1, 50)", "deliver(0, 0, 1)", "deliver(0, 0, 2)", "deliver(0, 1, 2)",
            "deliver(0, 2, 2)", "deliver(0, 2, 0)", "deliver(0, 3, 0)", "deliver(0, 1, 1)", "deliver(0, 3, 1)",
            "deliver(0, 4, 0)");
        DUE.answer(two, "replica(0, 0, 0)", 0);
        DUE.answer(two.then("deliver(0, 6, 0)"), "replica(0, 0, 0)", 1);
        DUE.answer(two.then("lie(0, 2, 0, 0, 0)"), "replica(0, 0, 0)", 1);
        DUE.answer(two.then("lie(0, 2, 0, -1, 0)"), "replica(0, 0, 0)", 0);
        DUE.answer(two.then("lie(0, 2, 0, 1, 0)"), "replica(0, 0, 0)", 0);
        DUE.answer(two.then("lie(0, 2, 1, 0, 0)"), "replica(0, 0, 0)", 0);
        DUE.answer(two.then("lie(0, 1, 0, 0, 0)"), "replica(0, 0, 0)", 0);
        DUE.answer(two.then("lie(0, 2, 0, -1, 0)", "deliver(0, 6, 0)"), "replica(0, 0, 0)", 1);
    }

    private static void leadersOfHeightsAndRounds() {
        DUE.sentence("The LEADER of a height and a round is the replica with the number height + round modulo 4");
        for (int h = 0; h < 8; h++) {
            Scene height = Scene.of(0);
            for (int k = 0; k < h; k++) {
                height = height.then("submit(0, -1, 50)", "flood(0)");
            }
            for (int r = 0; r < 6; r++) {
                ShardLedger x = height.toRound(0, 3, r).play();
                int sent = x.messages(0);
                x.submit(0, -1, 50);
                DUE.is("a proposal and a vote", x.messages(0), sent + 2);
                DUE.message("leader", x, 0, sent, 0, (h + r) % 4, h, r, h, -1);
                DUE.message("its vote", x, 0, sent + 1, 1, (h + r) % 4, h, r, h, -1);
            }
        }
    }

    private static void leadersOfHighHeights() {
        DUE.sentence("The LEADER of a height and a round is the replica with the number height + round modulo 4");
        ShardLedger x = Scene.of(0).times(8, "submit(0, -1, 100)").then("flood(0)", "client()", "flood(0)").play();
        int height = 0;
        for (int k = 0; k < 144; k++) {
            if (x.message(0, k, 0) == 0) {
                DUE.is("height of proposal " + height, x.message(0, k, 2), height);
                DUE.is("sender of proposal " + height, x.message(0, k, 1), height % 4);
                height++;
            }
        }
        DUE.is("proposals", height, 16);
        DUE.is("messages(0)", x.messages(0), 144);
    }

    private static void falseLeaderIsNotVotedFor() {
        DUE.sentence("a proposal of another sender than the leader of its height and round counts as no message at all");
        for (int r = 0; r < 6; r++) {
            // Whoever leads round r sleeps, and the liar proposes to the one behind it.
            int to = r % 4 == 0 ? 1 : 0;
            Scene scene = Scene.of(1).toRound(0, 2, r).then("sleep(0, " + r % 4 + ", true)", "submit(0, -1, 50)");
            ShardLedger x = scene.then("lie(0, 0, " + r + ", 0, " + to + ")").play();
            DUE.replica("round " + r, x, 0, to, 0, r, r == 3 ? 1 : 0, -1, -1, -1, -1);
            DUE.is("messages(0)", x.messages(0), 6 * r + (r == 3 ? 1 : 0));
        }
    }

    private static void falseLeaderLiftsNobody() {
        DUE.sentence("a proposal of another sender than the leader of its height and round counts as no message at all");
        for (int r = 1; r < 6; r++) {
            // Replica 2 is still in round 0, and has a message of replica 0 with round r.
            Scene scene = Scene.of(1, "submit(0, -1, 50)", "sleep(0, 2, true)");
            scene = withTheLiarsHelp(scene, r).then("sleep(0, 2, false)");
            ShardLedger x = scene.play();
            int vote = lastVoteOf0(x, r);
            deliver(x, 2, vote);
            DUE.replica("one sender with round " + r, x, 0, 2, 0, 0);
            DUE.yes("lie", x.lie(0, 0, r, 0, 2));
            DUE.is("the proposal counts in round 3 alone, " + r, x.replica(0, 2, 1), r == 3 ? 3 : 0);
            DUE.yes("lie", x.lie(0, 1, r, -1, 2));
            DUE.is("a vote counts", x.replica(0, 2, 1), r);
        }
    }

    /** Replicas 0 and 1 go on to a round, with votes and seals for none of the liar as the third; then 0 votes. */
    private static Scene withTheLiarsHelp(Scene from, int round) {
        Scene scene = from;
        for (int r = 0; r < round; r++) {
            for (int i = 0; i < 2; i++) {
                scene = scene.then("lie(0, 1, " + r + ", -1, " + i + ")", "lie(0, 2, " + r + ", -1, " + i + ")");
            }
            scene = scene.then("tick(0, 0)", "tick(0, 1)", "flood(0)", "tick(0, 0)", "tick(0, 1)", "flood(0)",
                "tick(0, 0)", "tick(0, 1)");
        }
        return scene.then("tick(0, 0)");
    }

    private static int lastVoteOf0(ShardLedger x, int round) {
        int found = -1;
        for (int k = 0; k < x.messages(0); k++) {
            if (x.message(0, k, 0) == 1 && x.message(0, k, 1) == 0 && x.message(0, k, 3) == round) {
                found = k;
            }
        }
        return found;
    }

    private static void falseLeaderSealsNothing() {
        DUE.sentence("a proposal of another sender than the leader of its height and round counts as no message at all");
        ShardLedger x = new ShardLedger(1);
        x.submit(0, -1, 50);                                            // 0 proposal and 1 vote of replica 0
        deliver(x, 2, 0, 1);                                            // 2 vote of 2
        DUE.yes("vote", x.lie(0, 1, 0, 0, 2));                          // 3 seal of 2
        deliver(x, 0, 2);
        DUE.yes("vote", x.lie(0, 1, 0, 0, 0));                          // 4 seal of 0
        DUE.yes("a proposal that is not the leader's", x.lie(0, 0, 0, 0, 1));
        DUE.yes("vote", x.lie(0, 1, 0, 0, 1));
        deliver(x, 1, 1, 2);
        tick(x, 1);                                                     // 5 vote for none of 1
        DUE.replica("three votes and no proposal", x, 0, 1, 0, 0, 1, -1, -1, -1, -1);
        deliver(x, 1, 3, 4);
        DUE.yes("seal", x.lie(0, 2, 0, 0, 1));
        DUE.replica("three seals and no proposal", x, 0, 1, 0, 0, 1, -1, -1, -1, -1);
        DUE.is("messages(0)", x.messages(0), 6);
        deliver(x, 1, 0);
        DUE.replica("the leader's proposal", x, 0, 1, 1, 0, 0, -1, -1, -1, -1);
        DUE.is("messages(0)", x.messages(0), 6);
    }

    private static void requestsThatAreNotGood() {
        DUE.sentence("A request is GOOD for a replica when it is for its shard and the replica has not executed it.");
        // At height 1 the liar leads round 2: request 0 is executed, 1 is of shard 1, 2 and 3 are good.
        Scene scene = Scene.of(1, "submit(0, 1, 50)", "flood(0)").toRound(0, 2, 2)
            .then("submit(0, -1, 50)", "submit(2, -1, 50)");
        int[] votedFor = {-1, -1, 2, 3};
        for (int q = 0; q < 4; q++) {
            ShardLedger x = scene.play();
            int sent = x.messages(0);
            DUE.yes("proposal of " + q, x.lie(0, 0, 2, q, 1));
            DUE.message("vote", x, 0, sent, 1, 1, 1, 2, votedFor[q], -1);
        }
        // Votes and seals for what is not good make no candidate, and are not executed.
        for (int q = 0; q < 2; q++) {
            ShardLedger x = scene.then("lie(0, 0, 2, " + q + ", 1)", "lie(0, 1, 2, " + q + ", 1)",
                "lie(0, 2, 2, " + q + ", 1)").play();
            DUE.replica("not good", x, 0, 1, 1, 2, 1, -1, -1, -1, -1);
        }
    }

    private static void executedBeforeAnythingElse() {
        DUE.sentence("as long as one of these can be done, the first that can is done");
        ShardLedger x = sleptThrough().play();
        deliver(x, 3, 4, 5, 6);
        DUE.replica("three seals and no proposal", x, 0, 3, 0, 0, 0, -1, -1, -1, -1);
        deliver(x, 3, 0);
        DUE.replica("executed", x, 0, 3, 1, 0, 0, -1, -1, -1, -1);
        DUE.is("without a vote", x.messages(0), 7);
        ShardLedger y = sleptThrough().play();
        deliver(y, 3, 1, 2, 4, 5);
        DUE.replica("two votes and two seals", y, 0, 3, 0, 0, 0, -1, -1, -1, -1);
        deliver(y, 3, 0);
        DUE.replica("its own vote is the third, and its own seal, too", y, 0, 3, 1, 0, 0, -1, -1, -1, -1);
        DUE.message("its vote", y, 0, 7, 1, 3, 0, 0, 0, -1);
        DUE.message("its seal", y, 0, 8, 2, 3, 0, 0, 0, -1);
        DUE.is("messages(0)", y.messages(0), 9);
    }

    private static void afterExecution() {
        DUE.sentence("its height grows by 1; round and step are 0, lock and candidate none");
        for (int r = 0; r < 6; r++) {
            ShardLedger x = Scene.of(0).toRound(0, 3, r).then("submit(0, -1, 50)", "flood(0)").play();
            for (int i = 0; i < 4; i++) {
                DUE.replica("executed in round " + r, x, 0, i, 1, 0, 0, -1, -1, -1, -1);
                DUE.is("executed(0, i, 0)", x.executed(0, i, 0), 0);
                DUE.is("executed(0, i, 1)", x.executed(0, i, 1), -1);
            }
        }
    }

    /** Replica 3 sleeps in round 0, and the others are in a round where 0 and 1 have voted: messages 6 r and 6 r + 1. */
    private static Scene leftBehind(int round, String... before) {
        return Scene.of(0, before).then("sleep(0, 3, true)").toRound(0, 2, round)
            .then("tick(0, 0)", "tick(0, 1)", "sleep(0, 3, false)");
    }

    private static void joinsEachRoundAbove() {
        DUE.sentence("For some round above r messages with it of two different senders: .. becomes its round; step 0.");
        for (int r = 1; r < 6; r++) {
            ShardLedger x = leftBehind(r).play();
            deliver(x, 3, 6 * r);
            DUE.replica("one sender of round " + r, x, 0, 3, 0, 0, 0, -1, -1, -1, -1);
            deliver(x, 3, 6 * r + 1);
            DUE.replica("two senders of round " + r, x, 0, 3, 0, r, 0, -1, -1, -1, -1);
            ShardLedger y = leftBehind(r, "tick(0, 3)").play();
            deliver(y, 3, 6 * r + 1);
            DUE.replica("one sender, at step 1", y, 0, 3, 0, 0, 1, -1, -1, -1, -1);
            deliver(y, 3, 6 * r + 2);
            DUE.replica("two senders, at step 1", y, 0, 3, 0, r, 0, -1, -1, -1, -1);
        }
    }

    /** Of each kind one is enough: the seal of 0 with round 1, and then a vote, a seal or the leader's proposal. */
    private static void messagesOfEachKind() {
        DUE.sentence("For some round above r messages with it of two different senders");
        Scene scene = Scene.of(0, "sleep(0, 3, true)").failRound(0, 2).then("submit(0, -1, 50)", "flood(0)", "sleep(0, 3, false)");
        ShardLedger x = scene.play();
        for (int k = 6; k < 13; k++) {
            if (x.message(0, k, 0) == 2 && x.message(0, k, 1) == 0) {
                joinsWithSeal(scene, k);
            }
        }
        DUE.is("messages(0)", x.messages(0), 13);
    }

    private static void joinsWithSeal(Scene scene, int seal) {
        for (int k = 6; k < 13; k++) {
            ShardLedger x = scene.play();
            deliver(x, 3, seal);
            DUE.replica("the seal of one sender", x, 0, 3, 0, 0, 0, -1, -1, -1, -1);
            if (x.message(0, k, 1) != 0) {
                deliver(x, 3, k);
                // The proposal is voted for at once.
                int step = x.message(0, k, 0) == 0 ? 1 : 0;
                DUE.replica("and message " + k + " of another", x, 0, 3, 0, 1, step, -1, -1, -1, -1);
            }
        }
    }

    /** Replica 1 alone has sealed in round 0, and the others have gone on to round 1, which it leads. */
    private static void joinsWithItsLock() {
        DUE.sentence("the lowest of such rounds becomes its round; step 0");
        ShardLedger x = new ShardLedger(0);
        x.submit(0, -1, 30);                                            // 0 proposal and 1 vote of replica 0
        deliver(x, 1, 0);                                               // 2 vote of 1
        deliver(x, 2, 0);                                               // 3 vote of 2
        deliver(x, 1, 1, 3);                                            // 4 seal of 1
        tick(x, 3);                                                     // 5 vote for none of 3
        deliver(x, 0, 2, 5);
        tick(x, 0);                                                     // 6 seal of none of 0
        deliver(x, 2, 1, 5);
        tick(x, 2);                                                     // 7 seal of none of 2
        deliver(x, 3, 1, 2);
        tick(x, 3);                                                     // 8 seal of none of 3
        deliver(x, 0, 7, 8);
        deliver(x, 2, 6, 8);
        tick(x, 0, 2, 0, 2);                                            // 9 and 10 votes for none of 0 and 2 in round 1
        deliver(x, 1, 9);
        DUE.replica("one sender", x, 0, 1, 0, 0, 2, 0, 0, 0, 0);
        deliver(x, 1, 10);                                              // 11 proposal and 12 vote of 1
        DUE.replica("lock and candidate stay", x, 0, 1, 0, 1, 1, 0, 0, 0, 0);
        DUE.message("it proposes its candidate", x, 0, 11, 0, 1, 0, 1, 0, 0);
        DUE.message("and votes for its lock", x, 0, 12, 1, 1, 0, 1, 0, -1);
    }

    private static void oneSenderIsNotTwo() {
        DUE.sentence("For some round above r messages with it of two different senders");
        for (int r = 1; r < 6; r++) {
            ShardLedger x = Scene.of(1, "submit(0, -1, 50)", "lie(0, 0, " + r + ", 0, 1)", "lie(0, 1, " + r + ", 0, 1)",
                "lie(0, 2, " + r + ", 0, 1)").play();
            DUE.replica("three messages of one sender", x, 0, 1, 0, 0, 0, -1, -1, -1, -1);
        }
        ShardLedger y = leftBehind(2).play();
        deliver(y, 3, 12);
        for (int k = 6; k < 12; k++) {
            if (y.message(0, k, 1) == 0) {
                deliver(y, 3, k);
            }
        }
        DUE.replica("one sender with rounds 1 and 2", y, 0, 3, 0, 0, 0, -1, -1, -1, -1);
        deliver(y, 3, 13);
        DUE.replica("two senders with round 2", y, 0, 3, 0, 2, 0, -1, -1, -1, -1);
    }

    private static void roundsNotAbove() {
        DUE.sentence("For some round above r");
        ShardLedger x = leftBehind(2).play();
        deliver(x, 3, 12, 13);
        DUE.replica("round 2", x, 0, 3, 0, 2, 0, -1, -1, -1, -1);
        tick(x, 2);                                                     // 14 vote for none of 2
        deliver(x, 3, 14);
        DUE.replica("three senders of its own round", x, 0, 3, 0, 2, 0, -1, -1, -1, -1);
        tick(x, 3);                                                     // 15 vote and 16 seal for none of 3
        DUE.replica("step 2", x, 0, 3, 0, 2, 2, -1, -1, -1, -1);
        for (int k = 0; k < 12; k++) {
            deliver(x, 3, k);
        }
        DUE.replica("messages of the rounds below", x, 0, 3, 0, 2, 2, -1, -1, -1, -1);
        DUE.is("messages(0)", x.messages(0), 17);
    }

    private static void nothingToPropose() {
        DUE.sentence("otherwise the good request with the lowest number, if there is one, with -1");
        Scene other = Scene.of(0, "submit(1, -1, 50)");
        DUE.answer(other, "messages(0)", 0);
        DUE.answer(other, "messages(1)", 2);
        Scene done = Scene.of(0, "submit(0, -1, 50)", "flood(0)");
        DUE.answer(done, "messages(0)", 9);
        DUE.answer(done.then("sleep(0, 1, true)", "sleep(0, 1, false)"), "messages(0)", 9);
        DUE.answer(done.then("submit(1, -1, 50)"), "messages(0)", 9);
        DUE.answer(done.then("submit(2, -1, 50)"), "messages(0)", 11);
    }

    private static void proposesAtStepZeroAlone() {
        DUE.sentence("Step 0, it is the leader of h and r, and has sent no proposal with these");
        Scene one = Scene.of(0, "tick(0, 0)");
        DUE.answer(one.then("submit(0, -1, 50)"), "messages(0)", 1);
        Scene two = Scene.of(0, "tick(0, 0)", "tick(0, 1)", "tick(0, 2)", "deliver(0, 1, 0)", "deliver(0, 2, 0)");
        DUE.answer(two, "replica(0, 0, 2)", 2);
        DUE.answer(two.then("submit(0, -1, 50)"), "messages(0)", 4);
        Scene proposed = Scene.of(0, "submit(0, -1, 50)");
        DUE.answer(proposed.then("submit(2, -1, 50)"), "messages(0)", 2);
        DUE.answer(proposed.then("client()"), "messages(0)", 2);
        DUE.answer(proposed.then("sleep(0, 0, true)", "sleep(0, 0, false)"), "messages(0)", 2);
    }

    private static void lowestGoodRequest() {
        DUE.sentence("the good request with the lowest number");
        ShardLedger x = Scene.of(0, "submit(1, -1, 50)", "sleep(0, 0, true)", "submit(0, -1, 50)", "submit(2, -1, 50)",
            "sleep(0, 0, false)").play();
        DUE.message("request 0 is of the other shard", x, 0, 0, 0, 0, 0, 0, 1, -1);
        x.flood(0);
        DUE.message("request 1 is executed", x, 0, 9, 0, 1, 1, 0, 2, -1);
        DUE.message("shard 1", x, 1, 0, 0, 0, 0, 0, 0, -1);
    }

    /**
     * Replica 1 alone sees three votes in round 0, and proposes with them in round 1: 1, 2, 3 are the votes of 0, 1, 2
     * in round 0, 8 and 9 the proposal and the vote of 1 in round 1. Replicas 0, 2 and 3 are in round 1, too.
     */
    private static ShardLedger carriedOn() {
        ShardLedger x = new ShardLedger(0);
        x.submit(0, -1, 30);                                            // 0 proposal and 1 vote of replica 0
        deliver(x, 1, 0);                                               // 2 vote of 1
        deliver(x, 2, 0);                                               // 3 vote of 2
        deliver(x, 1, 1, 3);                                            // 4 seal of 1
        tick(x, 3);                                                     // 5 vote for none of 3
        deliver(x, 0, 2, 5);
        tick(x, 0);                                                     // 6 seal of none of 0
        deliver(x, 2, 1, 5);
        tick(x, 2);                                                     // 7 seal of none of 2
        deliver(x, 1, 6, 7);
        tick(x, 1);                                                     // 8 proposal and 9 vote of 1
        deliver(x, 0, 4, 7);
        tick(x, 0);
        deliver(x, 2, 4, 6);
        tick(x, 2);
        return x;
    }

    private static void candidateNeedsThreeVotes() {
        DUE.sentence("whose candidate's round c is -1, or not -1 and not below r, or there are three votes for q with round c");
        ShardLedger x = carriedOn();
        DUE.message("the candidate", x, 0, 8, 0, 1, 0, 1, 0, 0);
        deliver(x, 0, 8);
        DUE.replica("two votes with round 0", x, 0, 0, 0, 1, 0, -1, -1, -1, -1);
        deliver(x, 0, 9);
        DUE.replica("a vote with round 1", x, 0, 0, 0, 1, 0, -1, -1, -1, -1);
        deliver(x, 0, 3);                                               // 10 vote of 0
        DUE.message("three votes with round 0", x, 0, 10, 1, 0, 0, 1, 0, -1);
        deliver(x, 2, 8);
        DUE.replica("two votes and one for none", x, 0, 2, 0, 1, 0, -1, -1, -1, -1);
        deliver(x, 2, 2);                                               // 11 vote of 2
        DUE.message("three votes with round 0", x, 0, 11, 1, 2, 0, 1, 0, -1);
    }

    private static void votesForItsLockAgain() {
        DUE.sentence("it has no lock, or the lock is q, or c is not -1 and the lock's round is not above c");
        ShardLedger x = carriedOn();
        DUE.replica("the lock of 1", x, 0, 1, 0, 1, 1, 0, 0, 0, 0);
        tick(x, 0, 2);                                                  // 10 and 11 votes for none of 0 and 2
        deliver(x, 0, 9, 11);
        tick(x, 0);                                                     // 12 seal of none of 0
        deliver(x, 2, 9, 10);
        tick(x, 2);                                                     // 13 seal of none of 2
        deliver(x, 1, 10, 11);
        tick(x, 1);                                                     // 14 seal of none of 1
        deliver(x, 1, 12, 13);
        tick(x, 1);
        deliver(x, 2, 12, 14);
        tick(x, 2);                                                     // 15 proposal and 16 vote of 2
        DUE.message("no candidate", x, 0, 15, 0, 2, 0, 2, 0, -1);
        deliver(x, 1, 15);                                              // 17 vote of 1
        DUE.message("the lock is q, and c is -1", x, 0, 17, 1, 1, 0, 2, 0, -1);
    }

    private static void candidateAtStepOneOrTwo() {
        DUE.sentence("Step 1 or 2, its candidate is not one with round r");
        ShardLedger x = carriedOn();
        deliver(x, 0, 3, 8);                                            // 10 vote of 0
        deliver(x, 2, 2, 8);                                            // 11 vote of 2
        deliver(x, 3, 8, 9, 10);                                        // 3 joins round 1
        DUE.replica("the proposal is not backed", x, 0, 3, 0, 1, 0, -1, -1, -1, -1);
        deliver(x, 3, 11);
        DUE.replica("three votes with round 1, but step 0", x, 0, 3, 0, 1, 0, -1, -1, -1, -1);
        DUE.is("messages(0)", x.messages(0), 12);
        tick(x, 3);                                                     // 12 vote for none and 13 seal of 3
        DUE.message("it votes for none", x, 0, 12, 1, 3, 0, 1, -1, -1);
        DUE.message("and seals the request", x, 0, 13, 2, 3, 0, 1, 0, -1);
        DUE.replica("step 1 comes to step 2", x, 0, 3, 0, 1, 2, 0, 1, 0, 1);
        ShardLedger y = Scene.of(0, "submit(0, -1, 30)", "deliver(0, 0, 1)", "deliver(0, 0, 2)", "tick(0, 3)",
            "deliver(0, 2, 0)", "deliver(0, 4, 0)", "tick(0, 0)").play();
        DUE.replica("at step 2 with two votes", y, 0, 0, 0, 0, 2, -1, -1, -1, -1);
        int sent = y.messages(0);
        deliver(y, 0, 3);
        DUE.replica("at step 2 a candidate, but no lock", y, 0, 0, 0, 0, 2, -1, -1, 0, 0);
        DUE.is("and no seal", y.messages(0), sent);
    }

    private static void threeVotesForNone() {
        DUE.sentence("Step 1, and three votes for none with r: it seals none with r; step 2.");
        ShardLedger x = Scene.of(0, "tick(0, 1)", "tick(0, 2)", "tick(0, 3)").play();
        deliver(x, 0, 0, 1, 2);
        DUE.replica("three votes for none, but step 0", x, 0, 0, 0, 0, 0, -1, -1, -1, -1);
        DUE.is("messages(0)", x.messages(0), 3);
        tick(x, 0);                                                     // 3 vote and 4 seal for none of 0
        DUE.message("its seal", x, 0, 4, 2, 0, 0, 0, -1, -1);
        DUE.replica("step 2", x, 0, 0, 0, 0, 2, -1, -1, -1, -1);
        deliver(x, 1, 1);
        DUE.replica("two votes for none", x, 0, 1, 0, 0, 1, -1, -1, -1, -1);
        deliver(x, 1, 2);                                               // 5 seal for none of 1
        DUE.replica("three votes for none", x, 0, 1, 0, 0, 2, -1, -1, -1, -1);
        deliver(x, 1, 3);
        DUE.replica("four votes for none", x, 0, 1, 0, 0, 2, -1, -1, -1, -1);
        DUE.is("one seal", x.messages(0), 6);
        Scene mixed = Scene.of(1, "submit(0, -1, 50)", "tick(0, 1)", "tick(0, 2)", "deliver(0, 3, 1)", "deliver(0, 1, 1)");
        DUE.answer(mixed, "replica(0, 1, 2)", 1);
        DUE.answer(mixed.then("lie(0, 1, 0, 0, 1)"), "replica(0, 1, 2)", 1);
        DUE.answer(mixed.then("lie(0, 1, 1, -1, 1)"), "replica(0, 1, 2)", 1);
        DUE.answer(mixed.then("lie(0, 1, 0, -1, 1)"), "replica(0, 1, 2)", 2);
    }
}
