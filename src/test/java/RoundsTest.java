/** How a replica acts when rounds fail: locks, candidates, rounds that are joined, seals of earlier rounds. */
public final class RoundsTest {
    private static final Due DUE = new Due("RoundsTest");

    public static void main(String[] args) {
        candidateIsCarriedOn();
        lockKeepsFromAnother();
        laterCandidateUnlocks();
        earlierCandidateDoesNotUnlock();
        joinsRoundOfTwo();
        proposalCountsForJoining();
        sealsOfAnEarlierRound();
        ownSealIsTheThird();
        DUE.end();
    }

    private static void deliver(ShardLedger x, int to, int... messages) {
        for (int k : messages) {
            DUE.yes("deliver(0, " + k + ", " + to + ")", x.deliver(0, k, to));
        }
    }

    private static void tick(ShardLedger x, int replica) {
        DUE.yes("tick(0, " + replica + ")", x.tick(0, replica));
    }

    /** Replica 1 alone sees three votes in round 0, and proposes with them in round 1. */
    private static void candidateIsCarriedOn() {
        DUE.sentence("when it has a candidate, it proposes that, with the candidate's round");
        ShardLedger x = new ShardLedger(0);
        x.submit(0, -1, 30);                                            // 0 proposal and 1 vote of replica 0
        deliver(x, 1, 0);                                               // 2 vote of 1
        deliver(x, 2, 0);                                               // 3 vote of 2
        deliver(x, 1, 1, 3);                                            // 4 seal of 1
        tick(x, 3);                                                     // 5 vote for none of 3
        deliver(x, 0, 2, 5);
        tick(x, 0);                                                     // 6 seal of none of 0
        deliver(x, 3, 1, 2);
        tick(x, 3);                                                     // 7 seal of none of 3
        deliver(x, 1, 6, 7);
        tick(x, 1);                                                     // 8 proposal and 9 vote of 1 in round 1
        DUE.message("with the candidate's round", x, 0, 8, 0, 1, 0, 1, 0, 0);
        DUE.message("it may vote for its lock", x, 0, 9, 1, 1, 0, 1, 0, -1);
        DUE.replica("leader of round 1", x, 0, 1, 0, 1, 1, 0, 0, 0, 0);
        deliver(x, 3, 4, 6);
        tick(x, 3);
        deliver(x, 3, 8);
        DUE.replica("two votes of round 0 do not back it", x, 0, 3, 0, 1, 0, -1, -1, -1, -1);
        deliver(x, 3, 9);
        DUE.is("step", x.replica(0, 3, 2), 0);
        deliver(x, 3, 3);                                               // 10 vote of 3
        DUE.message("three do", x, 0, 10, 1, 3, 0, 1, 0, -1);
        DUE.replica("three do", x, 0, 3, 0, 1, 1, -1, -1, -1, -1);
    }

    /**
     * In round 3 the liar proposes request 1, and replica 1 alone locks it; in round 4 replica 0 proposes request 0,
     * for which 0 and 2 vote, but not 1.
     */
    private static ShardLedger lockedOnAnother() {
        ShardLedger x = new ShardLedger(1);
        LieTest.toRound(x, 3);                                          // 0 to 17
        x.submit(0, -1, 100);
        x.submit(2, -1, 100);
        x.lie(0, 0, 3, 1, 0);                                           // 18 vote of 0
        x.lie(0, 0, 3, 1, 1);                                           // 19 vote of 1
        deliver(x, 1, 18);
        x.lie(0, 1, 3, 1, 1);                                           // 20 seal of 1
        DUE.replica("locked", x, 0, 1, 0, 3, 2, 1, 3, 1, 3);
        tick(x, 2);                                                     // 21 vote for none of 2
        deliver(x, 0, 19, 21);
        tick(x, 0);                                                     // 22 seal of none of 0
        deliver(x, 2, 18, 19);
        tick(x, 2);                                                     // 23 seal of none of 2
        deliver(x, 0, 20, 23);
        tick(x, 0);                                                     // 24 proposal and 25 vote of 0
        deliver(x, 1, 22, 23);
        tick(x, 1);
        deliver(x, 1, 24);                                              // 26 vote for none of 1
        deliver(x, 2, 20, 22);
        tick(x, 2);
        deliver(x, 2, 24);                                              // 27 vote of 2
        return x;
    }

    private static void lockKeepsFromAnother() {
        DUE.sentence("it has no lock, or the lock is q, or c is not -1 and the lock's round is not above c; for none otherwise");
        ShardLedger x = lockedOnAnother();
        DUE.message("no candidate: the lowest request", x, 0, 24, 0, 0, 0, 4, 0, -1);
        DUE.message("0 has no lock", x, 0, 25, 1, 0, 0, 4, 0, -1);
        DUE.message("1 is locked on another", x, 0, 26, 1, 1, 0, 4, -1, -1);
        DUE.message("2 has no lock", x, 0, 27, 1, 2, 0, 4, 0, -1);
        DUE.replica("the lock stays", x, 0, 1, 0, 4, 1, 1, 3, 1, 3);
    }

    private static void laterCandidateUnlocks() {
        DUE.sentence("c is not -1 and the lock's round is not above c");
        ShardLedger x = lockedOnAnother();
        deliver(x, 1, 25, 27);
        tick(x, 1);                                                     // 28 seal of none of 1
        x.lie(0, 1, 4, 0, 1);
        DUE.replica("at step 2 a candidate, but no lock", x, 0, 1, 0, 4, 2, 1, 3, 0, 4);
        DUE.is("and no seal", x.messages(0), 29);
        deliver(x, 0, 26, 27);
        tick(x, 0);                                                     // 29 seal of none of 0
        deliver(x, 2, 25, 26);
        tick(x, 2);                                                     // 30 seal of none of 2
        deliver(x, 1, 29, 30);
        tick(x, 1);                                                     // 31 proposal and 32 vote of 1
        DUE.message("the later candidate", x, 0, 31, 0, 1, 0, 5, 0, 4);
        DUE.message("for it in spite of the lock", x, 0, 32, 1, 1, 0, 5, 0, -1);
        DUE.replica("the lock stays until three votes", x, 0, 1, 0, 5, 1, 1, 3, 0, 4);
        deliver(x, 0, 28, 30);
        tick(x, 0);
        deliver(x, 0, 31, 32);
        DUE.replica("two votes of round 4", x, 0, 0, 0, 5, 0, -1, -1, -1, -1);
        x.lie(0, 1, 4, 0, 0);                                           // 33 vote of 0
        DUE.message("three votes of round 4", x, 0, 33, 1, 0, 0, 5, 0, -1);
        x.lie(0, 1, 5, 0, 1);
        deliver(x, 1, 33);                                              // 34 seal of 1
        DUE.replica("the new lock", x, 0, 1, 0, 5, 2, 0, 5, 0, 5);
    }

    private static void earlierCandidateDoesNotUnlock() {
        DUE.sentence("c is not -1 and the lock's round is not above c");
        ShardLedger x = lockedOnAnother();
        deliver(x, 2, 25);
        x.lie(0, 1, 4, 0, 2);                                           // 28 seal of 2
        DUE.replica("2 is locked in round 4", x, 0, 2, 0, 4, 2, 0, 4, 0, 4);
        deliver(x, 1, 25, 27);
        tick(x, 1);                                                     // 29 seal of none of 1
        deliver(x, 0, 26, 27);
        tick(x, 0);                                                     // 30 seal of none of 0
        deliver(x, 1, 28, 30);
        tick(x, 1);                                                     // 31 proposal and 32 vote of 1
        DUE.message("the candidate of round 3", x, 0, 31, 0, 1, 0, 5, 1, 3);
        DUE.message("its own lock", x, 0, 32, 1, 1, 0, 5, 1, -1);
        deliver(x, 2, 29, 30);
        tick(x, 2);
        deliver(x, 2, 31);
        DUE.replica("not backed", x, 0, 2, 0, 5, 0, 0, 4, 0, 4);
        x.lie(0, 1, 3, 1, 2);                                           // 33 vote for none of 2
        DUE.message("backed, but the lock is later", x, 0, 33, 1, 2, 0, 5, -1, -1);
        deliver(x, 0, 28, 29);
        tick(x, 0);
        deliver(x, 0, 31);
        x.lie(0, 1, 3, 1, 0);                                           // 34 vote of 0
        DUE.message("without a lock", x, 0, 34, 1, 0, 0, 5, 1, -1);
    }

    private static void joinsRoundOfTwo() {
        DUE.sentence("For some round above r messages with it of two different senders");
        ShardLedger x = new ShardLedger(0);
        x.sleep(0, 3, true);
        LieTest.toRound(x, 2);                                          // 0 to 11
        tick(x, 0);                                                     // 12 vote of 0 in round 2
        tick(x, 1);                                                     // 13 vote of 1 in round 2
        x.sleep(0, 3, false);
        deliver(x, 3, 12);
        DUE.replica("one sender", x, 0, 3, 0, 0, 0);
        for (int k = 6; k < 12; k++) {
            if (x.message(0, k, 1) == 0) {
                DUE.is("round of message " + k, x.message(0, k, 3), 1);
                deliver(x, 3, k);
            }
        }
        DUE.replica("two messages of one sender", x, 0, 3, 0, 0, 0);
        deliver(x, 3, 13);
        DUE.replica("two senders", x, 0, 3, 0, 2, 0, -1, -1, -1, -1);
        DUE.is("messages(0)", x.messages(0), 14);
    }

    private static void proposalCountsForJoining() {
        DUE.sentence("For some round above r messages with it of two different senders");
        ShardLedger x = new ShardLedger(0);
        x.sleep(0, 3, true);
        LieTest.toRound(x, 1);                                          // 0 to 5
        tick(x, 0);                                                     // 6 vote for none of 0 in round 1
        x.submit(0, -1, 30);                                            // 7 proposal and 8 vote of 1
        DUE.message("proposal", x, 0, 7, 0, 1, 0, 1, 0, -1);
        x.sleep(0, 3, false);
        deliver(x, 3, 6);
        DUE.replica("one sender", x, 0, 3, 0, 0, 0);
        deliver(x, 3, 7);
        DUE.replica("the leader's proposal is a message", x, 0, 3, 0, 1, 1, -1, -1, -1, -1);
        DUE.message("and is voted for", x, 0, 9, 1, 3, 0, 1, 0, -1);
    }

    /** Replica 0 goes on to round 1; then the seals of round 0 come. */
    private static void sealsOfAnEarlierRound() {
        DUE.sentence("For some round (the lowest of these) a proposal of a good request and three seals for that");
        ShardLedger x = new ShardLedger(0);
        x.submit(0, -1, 30);                                            // 0 proposal and 1 vote of replica 0
        deliver(x, 1, 0);                                               // 2 vote of 1
        deliver(x, 2, 0);                                               // 3 vote of 2
        tick(x, 3);                                                     // 4 vote for none of 3
        deliver(x, 0, 2, 4);
        tick(x, 0);                                                     // 5 seal of none of 0
        deliver(x, 1, 1, 3);                                            // 6 seal of 1
        deliver(x, 2, 1, 2);                                            // 7 seal of 2
        deliver(x, 3, 0, 1, 2, 3);                                      // 8 seal of 3
        DUE.message("3 voted for none, but seals it", x, 0, 8, 2, 3, 0, 0, 0, -1);
        deliver(x, 0, 6, 7);
        DUE.replica("two seals", x, 0, 0, 0, 0, 2, -1, -1, -1, -1);
        tick(x, 0);
        DUE.replica("round 1", x, 0, 0, 0, 1, 0, -1, -1, -1, -1);
        deliver(x, 0, 3);
        DUE.replica("three votes of round 0 make no candidate now", x, 0, 0, 0, 1, 0, -1, -1, -1, -1);
        tick(x, 0);                                                     // 9 vote for none of 0 in round 1
        deliver(x, 0, 8);
        DUE.replica("executed", x, 0, 0, 1, 0, 0, -1, -1, -1, -1);
        DUE.is("executed(0, 0, 0)", x.executed(0, 0, 0), 0);
    }

    /** Replica 0 has two seals already when it gets its third vote, seals and executes at once. */
    private static void ownSealIsTheThird() {
        DUE.sentence("as long as one of these can be done, the first that can is done");
        ShardLedger x = new ShardLedger(0);
        x.submit(0, -1, 30);                                            // 0 proposal and 1 vote of replica 0
        deliver(x, 1, 0);                                               // 2 vote of 1
        deliver(x, 2, 0);                                               // 3 vote of 2
        deliver(x, 1, 1, 3);                                            // 4 seal of 1
        deliver(x, 2, 1, 2);                                            // 5 seal of 2
        deliver(x, 0, 4, 5, 2);
        DUE.replica("two votes, two seals", x, 0, 0, 0, 0, 1, -1, -1, -1, -1);
        deliver(x, 0, 3);                                               // 6 seal of 0
        DUE.message("its own seal", x, 0, 6, 2, 0, 0, 0, 0, -1);
        DUE.replica("executed at once", x, 0, 0, 1, 0, 0, -1, -1, -1, -1);
    }
}
