/** The boundaries of promise 3, of what "Terms" says of answers and of the client, and of promises 15 and 17. */
public final class ClientEdgesTest {
    private static final Due DUE = new Due("ClientEdgesTest");
    private static final int BAD = ShardLedger.BAD;

    public static void main(String[] args) {
        answeredByTwo();
        resultIsToldOnceAnswered();
        nothingToLookAt();
        allLocksAnswered();
        oneLockWith2();
        abortsInInputShards();
        commitsInInputAndOutputShards();
        allCommitsAnswered();
        allAbortsAnswered();
        oneStateAtALook();
        endedTransactionsStay();
        inOrder();
        thenAllReplicasAct();
        howManyItMade();
        howManyRequests();
        statesOfTransactions();
        DUE.end();
    }

    private static void states(ShardLedger x, int... want) {
        for (int t = 0; t < want.length; t++) {
            DUE.is("transaction(" + t + ")", x.transaction(t), want[t]);
        }
    }

    /** A look that makes nothing and changes no state is as good as no call. */
    private static void looksInVain(Scene scene) {
        DUE.refused(scene, "client()", 0);
    }

    /** Replicas 0, 1, 2 have sealed request 0: 4 is the seal of 2, 5 of 0, 6 of 1; 3 has the proposal. */
    private static Scene sealed(String submit) {
        return Scene.of(0, submit, "deliver(0, 0, 1)", "deliver(0, 0, 2)", "deliver(0, 1, 2)", "deliver(0, 2, 2)",
            "deliver(0, 2, 0)", "deliver(0, 3, 0)", "deliver(0, 1, 1)", "deliver(0, 3, 1)", "deliver(0, 0, 3)");
    }

    private static void answeredByTwo() {
        DUE.sentence("A request is ANSWERED, with its result, when two replicas of its shard have executed it.");
        Scene none = sealed("submit(0, -1, 100)");
        Scene one = none.then("deliver(0, 4, 3)", "deliver(0, 5, 3)", "deliver(0, 6, 3)");
        Scene two = one.then("deliver(0, 4, 0)", "deliver(0, 6, 0)");
        Scene three = two.then("deliver(0, 5, 2)", "deliver(0, 6, 2)");
        Scene four = three.then("deliver(0, 4, 1)", "deliver(0, 5, 1)");
        Scene[] scenes = {none, one, two, three, four};
        for (int n = 0; n < 5; n++) {
            ShardLedger x = scenes[n].play();
            int heights = x.replica(0, 0, 0) + x.replica(0, 1, 0) + x.replica(0, 2, 0) + x.replica(0, 3, 0);
            DUE.is("executed by", heights, n);
            DUE.request("executed by " + n, x, 0, 0, 0, 0, n < 2 ? 0 : 1);
            DUE.is("client()", x.client(), n < 2 ? 0 : 1);
            DUE.is("transaction(0)", x.transaction(0), n < 2 ? 0 : 1);
        }
        looksInVain(none);
        looksInVain(one);
    }

    private static void resultIsToldOnceAnswered() {
        DUE.sentence("3 the result with which it was answered (0 when it was not yet)");
        Scene scene = Scene.of(0, "submit(0, -1, 100)", "submit(0, -1, 100)");
        DUE.answer(scene, "request(0, 3)", 0);
        DUE.answer(scene, "request(1, 3)", 0);
        DUE.answer(scene.then("flood(0)"), "request(0, 3)", 1);
        DUE.answer(scene.then("flood(0)"), "request(1, 3)", 2);
        Scene made = scene.then("flood(0)", "client()");
        DUE.answer(made, "request(2, 3)", 0);
        DUE.answer(made, "request(3, 3)", 0);
        DUE.answer(made.then("flood(0)"), "request(2, 3)", 1);
        DUE.answer(made.then("flood(0)"), "request(3, 3)", 1);
        DUE.answer(made.then("flood(0)"), "request(1, 3)", 2);
    }

    private static void nothingToLookAt() {
        DUE.sentence("The client looks at each transaction");
        looksInVain(Scene.of(0));
        looksInVain(Scene.of(3));
        looksInVain(Scene.of(0, "submit(0, 1, 50)"));
    }

    private static void allLocksAnswered() {
        DUE.sentence("a transaction that is LOCKING, all of whose LOCKs were answered");
        Scene scene = Scene.of(0, "submit(0, 1, 50)");
        looksInVain(scene.then("flood(0)"));
        looksInVain(scene.then("flood(1)"));
        DUE.answer(scene.then("flood(0)", "flood(1)"), "client()", 2);
        DUE.answer(Scene.of(0, "submit(0, 2, 50)", "flood(0)"), "client()", 2);
        // A LOCK with 2 is not enough while the other one is not answered.
        looksInVain(Scene.of(0, "submit(0, 1, 50)", "submit(0, 3, 50)", "flood(0)"));
        looksInVain(Scene.of(0, "submit(0, 1, 50)", "submit(2, 1, 50)", "flood(1)"));
    }

    private static void oneLockWith2() {
        DUE.sentence("when one was with 2, it makes an ABORT for each of its input shards (shard 0 first): ABORTING");
        aborting("submit(0, 3, 50)", 2, 1);
        aborting("submit(2, 1, 50)", 1, 2);
        aborting("submit(0, 1, 50)", 2, 2);
        aborting("submit(1, 0, 50)", 2, 2);
        ShardLedger x = Scene.of(0, "submit(0, 1, 50)", "submit(2, 3, 50)", "flood(0)", "flood(1)", "client()").play();
        states(x, 1, 1);
    }

    /** After a transaction that has locked outputs 0 and 1, one that is refused at least one of its own. */
    private static void aborting(String submit, int result0, int result1) {
        ShardLedger x = Scene.of(0, "submit(0, 1, 200)", submit, "flood(0)", "flood(1)").play();
        DUE.request(submit, x, 2, 0, 0, 1, result0);
        DUE.request(submit, x, 3, 1, 0, 1, result1);
        DUE.is("client() after " + submit, x.client(), 4);
        DUE.request(submit, x, 4, 0, 1, 0, 0);
        DUE.request(submit, x, 5, 1, 1, 0, 0);
        DUE.request(submit, x, 6, 0, 2, 1, 0);
        DUE.request(submit, x, 7, 1, 2, 1, 0);
        states(x, 1, 2, BAD);
    }

    private static void abortsInInputShards() {
        DUE.sentence("an ABORT for each of its input shards");
        for (int n = 0; n < 4; n++) {
            // Outputs in both shards, but inputs in one.
            ShardLedger x = Scene.of(0, "submit(" + n + ", -1, " + (n % 2 == 0 ? 100 : 0) + ")",
                "submit(" + n + ", -1, 50)", "flood(0)", "flood(1)").play();
            DUE.is("client()", x.client(), 2);
            DUE.request("COMMIT", x, 2, n % 2, 1, 0, 0);
            DUE.request("ABORT", x, 3, n % 2, 2, 1, 0);
            DUE.is("requests()", x.requests(), 4);
            states(x, 1, 2);
        }
    }

    private static void commitsInInputAndOutputShards() {
        DUE.sentence("otherwise a COMMIT for each shard that is an input or an output shard (shard 0 first): COMMITTING");
        committing("submit(0, -1, 100)", 0);
        committing("submit(0, -1, 99)", 0, 1);
        committing("submit(0, -1, 0)", 0, 1);
        committing("submit(0, 2, 200)", 0);
        committing("submit(0, 2, 199)", 0, 1);
        committing("submit(1, -1, 0)", 1);
        committing("submit(1, -1, 1)", 0, 1);
        committing("submit(1, -1, 100)", 0, 1);
        committing("submit(3, 1, 0)", 1);
        committing("submit(3, 1, 1)", 0, 1);
        committing("submit(3, 0, 0)", 0, 1);
        committing("submit(3, 0, 200)", 0, 1);
    }

    private static void committing(String submit, int... shards) {
        ShardLedger x = Scene.of(0, submit, "flood(0)", "flood(1)").play();
        int locks = x.requests();
        DUE.is("client() after " + submit, x.client(), shards.length);
        for (int k = 0; k < shards.length; k++) {
            DUE.request(submit, x, locks + k, shards[k], 1, 0, 0);
        }
        DUE.is("requests()", x.requests(), locks + shards.length);
        states(x, 1);
    }

    private static void allCommitsAnswered() {
        DUE.sentence("COMMITTING, and all its COMMITs were answered: COMMITTED.");
        Scene scene = Scene.of(0, "submit(0, -1, 50)", "flood(0)", "client()");
        looksInVain(scene);
        looksInVain(scene.then("flood(0)"));
        looksInVain(scene.then("flood(1)"));
        Scene answered = scene.then("flood(0)", "flood(1)");
        DUE.answer(answered, "transaction(0)", 1);
        DUE.answer(answered, "client()", 0);
        DUE.answer(answered.then("client()"), "transaction(0)", 3);
    }

    private static void allAbortsAnswered() {
        DUE.sentence("ABORTING, and all its ABORTs: ABORTED.");
        Scene scene = Scene.of(0, "submit(0, -1, 100)", "submit(0, 1, 50)", "flood(0)", "flood(1)", "client()", "flood(0)",
            "client()");
        DUE.answer(scene, "transaction(0)", 3);
        DUE.answer(scene, "transaction(1)", 2);
        looksInVain(scene);
        Scene answered = scene.then("flood(1)");
        DUE.answer(answered, "transaction(1)", 2);
        DUE.answer(answered, "client()", 0);
        DUE.answer(answered.then("client()"), "transaction(1)", 4);
        // The other way round: the ABORT of shard 1 is answered, that of shard 0 is not.
        Scene other = Scene.of(0, "submit(1, -1, 0)", "submit(1, 0, 50)", "flood(0)", "flood(1)", "client()", "flood(1)",
            "client()");
        DUE.answer(other, "transaction(0)", 3);
        DUE.answer(other, "transaction(1)", 2);
        looksInVain(other);
        DUE.answer(other.then("flood(0)", "client()"), "transaction(1)", 4);
    }

    private static void oneStateAtALook() {
        DUE.sentence("0 LOCKING, 1 COMMITTING, 2 ABORTING, 3 COMMITTED, 4 ABORTED");
        ShardLedger x = Scene.of(0, "submit(0, -1, 100)", "submit(0, -1, 100)").play();
        states(x, 0, 0);
        x.flood(0);
        states(x, 0, 0);
        DUE.is("client()", x.client(), 2);
        states(x, 1, 2);
        DUE.is("client()", x.client(), 0);
        states(x, 1, 2);
        x.flood(0);
        states(x, 1, 2);
        DUE.is("client()", x.client(), 0);
        states(x, 3, 4, BAD);
    }

    private static void endedTransactionsStay() {
        DUE.sentence("3 COMMITTED, 4 ABORTED");
        Scene ended = Scene.of(0, "submit(0, 1, 50)", "submit(0, 1, 50)", "flood(0)", "flood(1)", "client()", "flood(0)",
            "flood(1)", "client()");
        DUE.answer(ended, "transaction(0)", 3);
        DUE.answer(ended, "transaction(1)", 4);
        looksInVain(ended);
        looksInVain(ended.then("client()", "flood(0)", "flood(1)"));
        looksInVain(ended.then("client()", "submit(0, -1, 50)"));
    }

    private static void inOrder() {
        DUE.sentence("The client looks at each transaction, in order");
        ShardLedger x = Scene.of(0, "submit(3, 0, 50)", "submit(2, -1, 100)", "submit(1, -1, 0)", "flood(0)", "flood(1)",
            "client()").play();
        DUE.request("transaction 0", x, 4, 0, 1, 0, 0);
        DUE.request("transaction 0", x, 5, 1, 1, 0, 0);
        DUE.request("transaction 1", x, 6, 0, 1, 1, 0);
        DUE.request("transaction 2", x, 7, 1, 1, 2, 0);
        // A later transaction can be answered before an earlier one.
        Scene later = Scene.of(0, "submit(0, 1, 50)", "submit(2, -1, 100)", "flood(0)", "client()");
        states(later.play(), 0, 1);
        DUE.request("transaction 1", later.play(), 3, 0, 1, 1, 0);
        ShardLedger y = later.then("flood(1)", "client()").play();
        states(y, 1, 1);
        DUE.request("transaction 0", y, 4, 0, 1, 0, 0);
    }

    private static void thenAllReplicasAct() {
        DUE.sentence("then all replicas act, as above");
        Scene scene = Scene.of(0, "submit(0, -1, 50)", "flood(0)");
        ShardLedger x = scene.play();
        DUE.is("messages(0)", x.messages(0), 9);
        DUE.is("client()", x.client(), 2);
        DUE.is("messages(0)", x.messages(0), 11);
        DUE.message("the leader of height 1", x, 0, 9, 0, 1, 1, 0, 1, -1);
        DUE.message("votes", x, 0, 10, 1, 1, 1, 0, 1, -1);
        DUE.is("messages(1)", x.messages(1), 2);
        DUE.message("the leader of height 0", x, 1, 0, 0, 0, 0, 0, 2, -1);
        inTheirOrder(scene);
        DUE.answer(scene.then("sleep(0, 1, true)", "client()"), "messages(0)", 9);
        DUE.answer(scene.then("sleep(0, 1, true)", "client()", "sleep(0, 1, false)"), "messages(0)", 11);
    }

    /** At height 1 replica 1 leads round 0, in which it slept while the others came to round 2, which 3 leads. */
    private static void inTheirOrder(Scene height1) {
        Scene scene = height1.then("sleep(0, 1, true)");
        for (int r = 0; r < 2; r++) {
            scene = scene.then("tick(0, 0)", "tick(0, 2)", "tick(0, 3)", "flood(0)", "tick(0, 0)", "tick(0, 2)", "tick(0, 3)");
        }
        ShardLedger x = scene.then("sleep(0, 1, false)").play();
        int sent = x.messages(0);
        DUE.is("client()", x.client(), 2);
        DUE.message("first the proposal of 1", x, 0, sent, 0, 1, 1, 0, 1, -1);
        DUE.message("and its vote", x, 0, sent + 1, 1, 1, 1, 0, 1, -1);
        DUE.message("then the proposal of 3", x, 0, sent + 2, 0, 3, 1, 2, 1, -1);
        DUE.message("and its vote", x, 0, sent + 3, 1, 3, 1, 2, 1, -1);
        DUE.is("messages(0)", x.messages(0), sent + 4);
    }

    private static void howManyItMade() {
        DUE.sentence("Answers how many requests it made.");
        Scene scene = Scene.of(0);
        for (int t = 0; t < 8; t++) {
            scene = scene.then("submit(0, 1, 50)");
            DUE.answer(scene.then("flood(0)", "flood(1)"), "client()", 2 * t + 2);
            DUE.answer(scene.then("flood(0)", "flood(1)", "client()"), "client()", 0);
        }
        DUE.answer(Scene.of(0, "submit(0, -1, 100)", "flood(0)"), "client()", 1);
        DUE.answer(Scene.of(0, "submit(0, -1, 100)", "submit(1, -1, 5)", "flood(0)", "flood(1)"), "client()", 3);
    }

    private static void howManyRequests() {
        DUE.sentence("How many requests were made.");
        Scene scene = Scene.of(0);
        DUE.answer(scene, "requests()", 0);
        for (int t = 0; t < 8; t++) {
            scene = scene.then(t % 2 == 0 ? "submit(0, 1, 50)" : "submit(1, -1, 50)");
            DUE.answer(scene, "requests()", (3 * t + 4) / 2);
            DUE.answer(scene.then("submit(0, 0, 0)"), "requests()", (3 * t + 4) / 2);
        }
        Scene most = Scene.of(0).times(8, "submit(0, 1, 50)");
        DUE.answer(most, "requests()", 16);
        DUE.answer(most.then("submit(0, 1, 50)"), "requests()", 16);
        Scene made = most.then("flood(0)", "flood(1)", "client()");
        DUE.answer(made, "requests()", 32);
        DUE.answer(made, "request(31, 2)", 7);
        DUE.answer(made, "request(32, 2)", -2);
        DUE.answer(made.then("client()", "flood(0)", "flood(1)", "client()"), "requests()", 32);
    }

    private static void statesOfTransactions() {
        DUE.sentence("The client's state of a transaction; BAD when there is none.");
        Scene scene = Scene.of(0);
        for (int t = 0; t <= 8; t++) {
            if (t > 0) {
                DUE.answer(scene, "transaction(" + (t - 1) + ")", 0);
            }
            DUE.refusedFor(scene, BAD, "transaction($)", t, 8, 9, -1, Integer.MIN_VALUE, Integer.MAX_VALUE);
            scene = scene.then("submit(0, 1, 50)");
        }
    }
}
