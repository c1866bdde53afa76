/** The boundaries that stand under "Terms", but for those of acting and of the client. */
public final class TermsEdgesTest {
    private static final Due DUE = new Due("TermsEdgesTest");
    private static final int BAD = ShardLedger.BAD;
    private static final int FULL = ShardLedger.FULL;

    public static void main(String[] args) {
        constants();
        outputsOfShards();
        locksInTheShardOfAnInput();
        outputsAtTheBeginning();
        atMostEightTransactions();
        oneOrTwoInputs();
        outputsOfTransactions();
        amountsOfOutputs();
        outputShards();
        requestsInOrder();
        knownAsSoonAsMade();
        theFaultyTakesNothing();
        theFaultyDoesNothing();
        theSleeperTakesAndDoesNothing();
        allAtTheBeginning();
        roundsAndSteps();
        lockOfWhatIsUnspent();
        lockOfWhatIsLocked();
        lockOfWhatIsSpent();
        lockOfWhatIsNotThere();
        commitOfAmountsAboveZero();
        abortOfItsOwnLocksAlone();
        messagesInOrder();
        messagesOfNoRequest();
        ownMessagesAreTaken();
        DUE.end();
    }

    private static void constants() {
        DUE.sentence("A number is not as said.");
        DUE.is("BAD", ShardLedger.BAD, -1);
        DUE.sentence("There are 8 transactions.");
        DUE.is("FULL", ShardLedger.FULL, -2);
    }

    private static void outputsOfShards() {
        DUE.sentence("output n is of SHARD n modulo 2 (0 or 1)");
        for (int i = 0; i < 4; i++) {
            ShardLedger x = new ShardLedger(0);
            for (int n = 0; n < 20; n++) {
                DUE.is("output of its shard, " + n, x.output(n % 2, i, n), n < 4 ? 1 : 0);
                DUE.is("output of the other shard, " + n, x.output(1 - n % 2, i, n), BAD);
            }
        }
    }

    private static void locksInTheShardOfAnInput() {
        DUE.sentence("output n is of SHARD n modulo 2 (0 or 1)");
        for (int n = 0; n < 18; n++) {
            ShardLedger x = Scene.of(0).times(7, "submit(0, -1, 50)").play();
            DUE.is("submit " + n, x.submit(n, -1, 0), 7);
            DUE.is("one LOCK", x.requests(), 8);
            DUE.request("LOCK of output " + n, x, 7, n % 2, 0, 7, 0);
        }
    }

    private static void outputsAtTheBeginning() {
        DUE.sentence("At the beginning there are 0 .. 3, of 100 each.");
        Scene beginning = Scene.of(0);
        for (int n = 0; n < 4; n++) {
            DUE.answer(beginning, "submit(" + n + ", -1, 0)", 0);
            DUE.answer(beginning, "submit(" + n + ", -1, 100)", 0);
            DUE.refused(beginning, "submit(" + n + ", -1, 101)", BAD);
            DUE.answer(beginning, "output(" + n % 2 + ", 0, " + n + ")", 1);
        }
        DUE.refusedFor(beginning, BAD, "submit($, -1, 0)", -1, 4, 5, 19, Integer.MIN_VALUE, Integer.MAX_VALUE);
        DUE.answer(beginning, "output(0, 0, 4)", 0);
        DUE.answer(beginning, "output(1, 0, 5)", 0);
        for (int i = 0; i < 8; i++) {
            DUE.answer(beginning, "value(" + i / 4 + ", " + i % 4 + ")", 200);
        }
    }

    private static void atMostEightTransactions() {
        DUE.sentence("TRANSACTIONS are numbered 0, 1, .., at most 8");
        Scene scene = Scene.of(0);
        for (int t = 0; t < 8; t++) {
            DUE.answer(scene, "transaction(" + t + ")", BAD);
            DUE.answer(scene, "submit(1, 2, 150)", t);
            scene = scene.then("submit(1, 2, 150)");
            DUE.answer(scene, "transaction(" + t + ")", 0);
        }
        DUE.refused(scene, "submit(1, 2, 150)", FULL);
        DUE.refused(scene.then("submit(1, 2, 150)"), "submit(1, 2, 150)", FULL);
        DUE.answer(scene.then("submit(1, 2, 150)"), "transaction(8)", BAD);
    }

    private static void oneOrTwoInputs() {
        DUE.sentence("transaction t has one or two outputs as INPUTS");
        Scene beginning = Scene.of(0);
        DUE.refused(beginning, "submit(-1, -1, 0)", BAD);
        DUE.refused(beginning, "submit(-1, 0, 0)", BAD);
        inputsSpent(committed(beginning.then("submit(2, -1, 40)")), 2, 2);
        inputsSpent(committed(beginning.then("submit(2, 0, 40)")), 0, 2);
        inputsSpent(committed(beginning.then("submit(3, 0, 40)")), 0, 3);
    }

    private static void inputsSpent(Scene scene, int one, int other) {
        ShardLedger x = scene.play();
        DUE.is("transaction(0)", x.transaction(0), 3);
        for (int n = 0; n < 4; n++) {
            DUE.is("output " + n, x.output(n % 2, 1, n), n == one || n == other ? 3 : 1);
        }
    }

    private static Scene committed(Scene scene) {
        return scene.then("flood(0)", "flood(1)", "client()", "flood(0)", "flood(1)", "client()");
    }

    private static void outputsOfTransactions() {
        DUE.sentence("makes output 4 + 2 t of amount a and output 5 + 2 t of what is left of its inputs' amounts");
        for (int t = 0; t < 8; t++) {
            ShardLedger x = committed(Scene.of(0).times(t, "submit(2, -1, 100)").then("submit(0, 1, 130)")).play();
            DUE.is("transaction(" + t + ")", x.transaction(t), 3);
            for (int n = 4; n < 20; n++) {
                boolean made = n == 4 + 2 * t || n == 5 + 2 * t || n == 4 && t > 0;
                DUE.is("output " + n + " after " + t, x.output(n % 2, 2, n), made ? 1 : 0);
            }
            DUE.is("output(0, 2, 0)", x.output(0, 2, 0), 3);
            DUE.is("output(1, 2, 1)", x.output(1, 2, 1), 3);
            DUE.is("value(0, 2)", x.value(0, 2), 130 + 100);
            DUE.is("value(1, 2)", x.value(1, 2), 70 + 100);
        }
    }

    /** The amount of an output is the largest one that can be taken from it; of the last two there is no more than FULL. */
    private static void amountsOfOutputs() {
        DUE.sentence("makes output 4 + 2 t of amount a and output 5 + 2 t of what is left of its inputs' amounts");
        for (int t = 0; t < 8; t++) {
            Scene scene = Scene.of(0).times(t, "submit(2, -1, 100)").then("submit(0, 1, 130)");
            int even = 4 + 2 * t;
            int odd = 5 + 2 * t;
            int taken = t < 7 ? t + 1 : FULL;
            DUE.answer(scene, "submit(" + even + ", -1, 130)", taken);
            DUE.refused(scene, "submit(" + even + ", -1, 131)", BAD);
            DUE.answer(scene, "submit(" + odd + ", -1, 70)", taken);
            DUE.refused(scene, "submit(" + odd + ", -1, 71)", BAD);
            DUE.answer(scene, "submit(" + odd + ", " + even + ", 200)", taken);
            DUE.refused(scene, "submit(" + odd + ", " + even + ", 201)", BAD);
        }
    }

    private static void outputShards() {
        DUE.sentence("its output shards those of its outputs whose amount is above 0");
        int[] amounts = {0, 1, 99, 100};
        int[] shardsFromShard0 = {2, 2, 2, 1};
        int[] shardsFromShard1 = {1, 2, 2, 2};
        for (int k = 0; k < amounts.length; k++) {
            commits("submit(0, -1, " + amounts[k] + ")", shardsFromShard0[k], 0);
            commits("submit(3, -1, " + amounts[k] + ")", shardsFromShard1[k], 1);
        }
        for (int a : new int[] {0, 1, 199, 200}) {
            commits("submit(0, 1, " + a + ")", 2, 0);
        }
    }

    /** How many COMMITs a transaction gets; if it is one, in which shard. */
    private static void commits(String submit, int many, int only) {
        ShardLedger x = Scene.of(0, submit, "flood(0)", "flood(1)").play();
        int locks = x.requests();
        DUE.is("client() after " + submit, x.client(), many);
        DUE.request(submit, x, locks, many == 2 ? 0 : only, 1, 0, 0);
        DUE.request(submit, x, locks + 1, many == 2 ? new int[] {1, 1, 0, 0} : new int[] {-2});
    }

    private static void requestsInOrder() {
        DUE.sentence("each is for a shard, of a kind (0 LOCK, 1 COMMIT, 2 ABORT), about a transaction t");
        ShardLedger x = Scene.of(0, "submit(1, 0, 50)", "submit(0, -1, 50)", "flood(0)", "flood(1)", "client()").play();
        DUE.request("LOCK", x, 0, 0, 0, 0, 1);
        DUE.request("LOCK", x, 1, 1, 0, 0, 1);
        DUE.request("LOCK", x, 2, 0, 0, 1, 2);
        DUE.request("COMMIT", x, 3, 0, 1, 0, 0);
        DUE.request("COMMIT", x, 4, 1, 1, 0, 0);
        DUE.request("ABORT", x, 5, 0, 2, 1, 0);
        DUE.is("requests()", x.requests(), 6);
    }

    private static void knownAsSoonAsMade() {
        DUE.sentence("Every replica of the shard knows it as soon as it is made.");
        for (int s = 0; s < 2; s++) {
            for (int r = 0; r < 4; r++) {
                Scene scene = Scene.of(0).toRound(s, 3, r);
                ShardLedger x = scene.then("submit(" + s + ", -1, 50)").play();
                DUE.message("the leader of round " + r, x, s, 8 * r, 0, r, 0, r, 0, -1);
                ShardLedger y = scene.then("sleep(" + s + ", " + r + ", true)", "submit(" + s + ", -1, 50)").play();
                DUE.is("the leader sleeps", y.messages(s), 8 * r);
                y.sleep(s, r, false);
                DUE.message("the leader wakes in round " + r, y, s, 8 * r, 0, r, 0, r, 0, -1);
            }
        }
    }

    private static void theFaultyTakesNothing() {
        DUE.sentence("Replica 3 of shard s is FAULTY when bit s of the constructor's argument is 1: it takes .. nothing");
        Scene scene = Scene.of(1, "submit(0, 1, 50)");
        DUE.refused(scene, "deliver(0, 0, 3)", 0);
        DUE.refused(scene, "deliver(0, 1, 3)", 0);
        DUE.answer(scene, "deliver(0, 0, 2)", 1);
        DUE.answer(scene, "deliver(1, 0, 3)", 1);
        DUE.answer(scene, "flood(0)", 14);
        DUE.answer(scene, "flood(1)", 27);
    }

    private static void theFaultyDoesNothing() {
        DUE.sentence("it takes, does and executes nothing, but may be made to lie");
        Scene scene = Scene.of(1).toRound(0, 2, 3);
        ShardLedger x = scene.then("submit(0, -1, 50)", "client()", "flood(0)").play();
        DUE.is("it leads round 3, and does not propose", x.messages(0), 18);
        ShardLedger y = committed(Scene.of(1, "submit(0, 1, 50)")).play();
        DUE.replica("the faulty one", y, 0, 3, 0, 0, 0, -1, -1, -1, -1);
        DUE.replica("another", y, 0, 2, 2, 0, 0, -1, -1, -1, -1);
        DUE.replica("in the other shard", y, 1, 3, 2, 0, 0, -1, -1, -1, -1);
        DUE.is("executed(0, 3, 0)", y.executed(0, 3, 0), -1);
        DUE.is("output(0, 3, 0)", y.output(0, 3, 0), 1);
        DUE.is("output(0, 3, 4)", y.output(0, 3, 4), 0);
        DUE.is("value(0, 3)", y.value(0, 3), 200);
        DUE.is("its shard is done without it", y.transaction(0), 3);
        DUE.refused(scene, "tick(0, 3)", 0);
        DUE.refused(scene, "sleep(0, 3, true)", 0);
        DUE.answer(scene.then("submit(0, -1, 50)"), "lie(0, 0, 3, 0, 0)", 1);
    }

    private static void theSleeperTakesAndDoesNothing() {
        DUE.sentence("a replica ASLEEP takes and does nothing either, until it wakes");
        Scene scene = Scene.of(1, "submit(0, 1, 50)", "sleep(0, 1, true)", "sleep(1, 1, true)");
        DUE.refused(scene, "deliver(0, 0, 1)", 0);
        DUE.refused(scene, "tick(0, 1)", 0);
        DUE.refused(scene, "lie(0, 1, 0, 0, 1)", 0);
        DUE.answer(scene, "flood(0)", 3);
        ShardLedger x = scene.then("flood(1)", "submit(3, -1, 0)").play();
        DUE.is("the leader of height 1 sleeps", x.messages(1), 7);
        DUE.replica("the sleeper", x, 1, 1, 0, 0, 0, -1, -1, -1, -1);
        Scene awake = scene.then("sleep(0, 1, false)");
        DUE.answer(awake, "deliver(0, 0, 1)", 1);
        DUE.answer(awake, "tick(0, 1)", 1);
        DUE.answer(awake, "lie(0, 1, 0, 0, 1)", 1);
    }

    private static void allAtTheBeginning() {
        DUE.sentence("At the beginning all are 0, lock and candidate none, outputs 0 .. 3 unspent.");
        for (int n = 0; n < 32; n++) {
            Scene scene = Scene.of(n / 8);
            int s = n / 4 % 2;
            DUE.replica("beginning", scene.play(), s, n % 4, 0, 0, 0, -1, -1, -1, -1);
            for (int output = s; output < 20; output += 2) {
                DUE.answer(scene, "output(" + s + ", " + n % 4 + ", " + output + ")", output < 4 ? 1 : 0);
            }
        }
    }

    /** Every step of every round, and no further. */
    private static void roundsAndSteps() {
        DUE.sentence("a ROUND 0 .. 5, a STEP 0 .. 2");
        ShardLedger x = new ShardLedger(2);
        for (int r = 0; r < 6; r++) {
            for (int i = 0; i < 3; i++) {
                DUE.replica("step 0", x, 1, i, 0, r, 0, -1, -1, -1, -1);
                DUE.yes("tick", x.tick(1, i));
                DUE.replica("step 1", x, 1, i, 0, r, 1, -1, -1, -1, -1);
            }
            DUE.is("flood(1)", x.flood(1), 12);
            for (int i = 0; i < 3; i++) {
                DUE.replica("step 2", x, 1, i, 0, r, 2, -1, -1, -1, -1);
                DUE.is("tick", x.tick(1, i) ? 1 : 0, r < 5 ? 1 : 0);
            }
        }
        // Nothing leads out of the last step of the last round but an execution; and no message has round 6.
        for (int i = 0; i < 3; i++) {
            DUE.yes("vote", x.lie(1, 1, 5, -1, i));
            DUE.yes("seal", x.lie(1, 2, 5, -1, i));
            DUE.no("vote with round 6", x.lie(1, 1, 6, -1, i));
            DUE.no("tick", x.tick(1, i));
            DUE.replica("the end", x, 1, i, 0, 5, 2, -1, -1, -1, -1);
        }
    }

    /** The results of all LOCKs of a run in shard 0, and then what replica 0 keeps of outputs 0 and 2. */
    private static void locks(Scene scene, int output0, int output2, int... results) {
        ShardLedger x = scene.play();
        int found = 0;
        for (int q = 0; q < x.requests(); q++) {
            if (x.request(q, 1) == 0) {
                DUE.is("result of LOCK " + found, x.request(q, 3), results[found]);
                found++;
            }
        }
        DUE.is("LOCKs", found, results.length);
        DUE.is("output(0, 0, 0)", x.output(0, 0, 0), output0);
        DUE.is("output(0, 0, 2)", x.output(0, 0, 2), output2);
        DUE.is("value(0, 0)", x.value(0, 0), (output0 == 3 ? 0 : 100) + (output2 == 3 ? 0 : 100));
    }

    private static void lockOfWhatIsUnspent() {
        DUE.sentence("LOCK: when all inputs of t in this shard are unspent, they are locked by t: its result is 1");
        locks(Scene.of(0, "submit(0, -1, 0)", "flood(0)"), 2, 1, 1);
        locks(Scene.of(0, "submit(0, 2, 0)", "flood(0)"), 2, 2, 1);
        locks(Scene.of(0, "submit(2, 0, 0)", "flood(0)"), 2, 2, 1);
        locks(Scene.of(0, "submit(2, 1, 0)", "flood(0)", "flood(1)"), 1, 2, 1, 1);
        locks(Scene.of(0, "submit(0, -1, 0)", "submit(2, -1, 0)", "flood(0)"), 2, 2, 1, 1);
    }

    private static void lockOfWhatIsLocked() {
        DUE.sentence("otherwise it is 2, and nothing else is done");
        locks(Scene.of(0, "submit(0, -1, 0)", "submit(0, -1, 0)", "flood(0)"), 2, 1, 1, 2);
        locks(Scene.of(0, "submit(0, -1, 0)", "submit(0, 2, 0)", "flood(0)"), 2, 1, 1, 2);
        locks(Scene.of(0, "submit(0, -1, 0)", "submit(2, 0, 0)", "flood(0)"), 2, 1, 1, 2);
        locks(Scene.of(0, "submit(0, 2, 0)", "submit(2, 0, 0)", "flood(0)"), 2, 2, 1, 2);
        // Output 1 of the other shard is no input in this one.
        locks(Scene.of(0, "submit(1, -1, 0)", "submit(1, 2, 0)", "flood(0)", "flood(1)"), 1, 2, 1, 1, 2);
    }

    private static void lockOfWhatIsSpent() {
        DUE.sentence("otherwise it is 2, and nothing else is done");
        Scene spent = Scene.of(0, "submit(0, -1, 0)", "flood(0)", "client()", "flood(0)", "flood(1)", "client()");
        locks(spent.then("submit(0, 2, 0)", "flood(0)"), 3, 1, 1, 2);
        locks(spent.then("submit(2, 0, 0)", "flood(0)"), 3, 1, 1, 2);
        locks(spent.then("submit(0, 2, 0)", "flood(0)", "client()", "flood(0)"), 3, 1, 1, 2);
    }

    private static void lockOfWhatIsNotThere() {
        DUE.sentence("otherwise it is 2, and nothing else is done");
        locks(Scene.of(0, "submit(1, -1, 50)", "submit(4, 0, 0)", "flood(0)", "flood(1)"), 1, 1, 1, 2);
        locks(Scene.of(0, "submit(1, -1, 50)", "submit(0, 4, 0)", "flood(0)", "flood(1)"), 1, 1, 1, 2);
        // An output of amount 0 does not come, though its transaction was committed.
        Scene zero = committed(Scene.of(0, "submit(1, -1, 0)"));
        DUE.answer(zero, "transaction(0)", 3);
        locks(zero.then("submit(4, -1, 0)", "flood(0)"), 1, 1, 1, 2);
        locks(zero.then("submit(0, 4, 0)", "flood(0)", "client()", "flood(0)"), 1, 1, 1, 2);
        DUE.answer(zero.then("submit(4, -1, 0)", "flood(0)", "client()", "flood(0)"), "output(0, 0, 4)", 0);
    }

    private static void commitOfAmountsAboveZero() {
        DUE.sentence("COMMIT: .. the outputs of t in this shard whose amount is above 0 are unspent; 1");
        for (int a : new int[] {0, 1, 199, 200}) {
            ShardLedger x = committed(Scene.of(0, "submit(0, 1, " + a + ")")).play();
            DUE.is("output 4 of " + a, x.output(0, 3, 4), a > 0 ? 1 : 0);
            DUE.is("output 5 of " + (200 - a), x.output(1, 3, 5), a < 200 ? 1 : 0);
            DUE.is("output 0", x.output(0, 3, 0), 3);
            DUE.is("output 1", x.output(1, 3, 1), 3);
            DUE.is("value(0, 3)", x.value(0, 3), 100 + a);
            DUE.is("value(1, 3)", x.value(1, 3), 300 - a);
            DUE.request("shard 0", x, 2, 0, 1, 0, 1);
            DUE.request("shard 1", x, 3, 1, 1, 0, 1);
        }
    }

    private static void abortOfItsOwnLocksAlone() {
        DUE.sentence("ABORT: the inputs in this shard that are locked by t are unspent; 1");
        // Transaction 1 has locked output 3, and is refused output 0, which transaction 0 has locked.
        Scene scene = Scene.of(0, "submit(0, -1, 50)", "submit(0, 3, 50)", "flood(0)", "flood(1)");
        DUE.answer(scene, "output(1, 0, 3)", 2);
        Scene made = scene.then("client()");
        DUE.answer(made, "transaction(1)", 2);
        Scene aborted = made.then("flood(1)");
        DUE.answer(made, "output(1, 0, 3)", 2);
        DUE.answer(aborted, "output(1, 0, 3)", 1);
        DUE.answer(aborted, "output(1, 0, 1)", 1);
        DUE.answer(aborted, "request(6, 1)", 2);
        DUE.answer(aborted, "request(6, 3)", 1);
        // Transaction 0 waits for shard 1, so that its lock is still there when 1 is aborted.
        Scene waiting = Scene.of(0, "submit(0, 1, 50)", "submit(2, 0, 50)", "flood(0)", "client()", "flood(0)");
        DUE.answer(waiting, "request(3, 1)", 2);
        DUE.answer(waiting, "request(3, 3)", 1);
        DUE.answer(waiting, "output(0, 0, 0)", 2);
        DUE.answer(waiting, "output(0, 0, 2)", 1);
    }

    private static void messagesInOrder() {
        DUE.sentence("as they are sent; each has a kind (0 PROPOSAL, 1 VOTE, 2 SEAL), a sender, a height, a round");
        Scene scene = Scene.of(0).toRound(1, 3, 2).then("tick(1, 3)", "submit(3, -1, 50)", "tick(1, 0)", "deliver(1, 17, 1)");
        ShardLedger x = scene.play();
        DUE.is("messages(0)", x.messages(0), 0);
        DUE.is("messages(1)", x.messages(1), 21);
        DUE.message("vote for none of 0", x, 1, 0, 1, 0, 0, 0, -1, -1);
        DUE.message("seal of none of 2", x, 1, 4, 2, 2, 0, 0, -1, -1);
        DUE.message("seal of none of 1", x, 1, 15, 2, 1, 0, 1, -1, -1);
        DUE.message("vote for none of 3", x, 1, 16, 1, 3, 0, 2, -1, -1);
        DUE.message("proposal of 2", x, 1, 17, 0, 2, 0, 2, 0, -1);
        DUE.message("vote of 2", x, 1, 18, 1, 2, 0, 2, 0, -1);
        DUE.message("vote for none of 0", x, 1, 19, 1, 0, 0, 2, -1, -1);
        DUE.message("vote of 1", x, 1, 20, 1, 1, 0, 2, 0, -1);
    }

    private static void messagesOfNoRequest() {
        DUE.sentence("a request (-1 for none, never in a proposal) and, in a proposal, a round of its candidate (-1 for none)");
        ShardLedger x = Scene.of(0).failRound(0, 3).then("submit(0, -1, 50)", "flood(0)").play();
        for (int k = 0; k < x.messages(0); k++) {
            DUE.is("request of message " + k, x.message(0, k, 4), k < 8 ? -1 : 0);
            DUE.is("kind of message " + k, x.message(0, k, 0), k < 4 ? 1 : k < 8 ? 2 : x.message(0, k, 0));
            DUE.is("candidate's round of message " + k, x.message(0, k, 5), -1);
        }
        DUE.is("messages(0)", x.messages(0), 17);
        DUE.message("the proposal", x, 0, 8, 0, 1, 0, 1, 0, -1);
        DUE.answer(Scene.of(0).toRound(0, 3, 5), "messages(0)", 40);
    }

    private static void ownMessagesAreTaken() {
        DUE.sentence("A replica has TAKEN its own messages at once; others as they are delivered.");
        Scene scene = Scene.of(0, "submit(0, -1, 50)", "tick(0, 2)");
        DUE.refused(scene, "deliver(0, 0, 0)", 0);
        DUE.refused(scene, "deliver(0, 1, 0)", 0);
        DUE.refused(scene, "deliver(0, 2, 2)", 0);
        for (int i = 1; i < 4; i++) {
            String deliver = "deliver(0, 0, " + i + ")";
            DUE.answer(scene, deliver, 1);
            DUE.refused(scene.then(deliver), deliver, 0);
        }
        DUE.answer(scene, "deliver(0, 2, 0)", 1);
        DUE.answer(scene, "deliver(0, 2, 1)", 1);
    }
}
