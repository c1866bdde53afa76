/** The boundaries of promises 1, 9 to 14 and 16. */
public final class QuestionsEdgesTest {
    private static final Due DUE = new Due("QuestionsEdgesTest");
    private static final int BAD = ShardLedger.BAD;
    private static final int MIN = Integer.MIN_VALUE;
    private static final int MAX = Integer.MAX_VALUE;

    public static void main(String[] args) {
        bitsZeroAndOne();
        nothingAtTheBeginning();
        howManyMessages();
        noSuchMessage();
        noSuchThingOfAMessage();
        candidatesRound();
        noSuchReplica();
        noSuchThingOfAReplica();
        lockAndCandidateOfNone();
        executedInOrder();
        nothingExecuted();
        outputsOfShards();
        noSuchOutput();
        whatIsKeptOfAnOutput();
        unspentOrLocked();
        noSuchValue();
        noSuchRequest();
        noSuchThingOfARequest();
        askingChangesNothing();
        DUE.end();
    }

    private static void bitsZeroAndOne() {
        DUE.sentence("Bits 0 and 1 of liars say in which shards replica 3 is faulty.");
        int[] liars = {0, 1, 2, 3, 4, 5, 6, 7, 8, 12, 1 << 30, -1, -2, -3, -4, -5, -8, MIN, MIN + 1, MIN + 2, MIN + 3, MAX,
            MAX - 1, MAX - 2, MAX - 3};
        for (int all : liars) {
            Scene scene = Scene.of(all);
            for (int s = 0; s < 2; s++) {
                int faulty = (s == 0 ? all : all >> 1) & 1;
                DUE.answer(scene, "tick(" + s + ", 3)", 1 - faulty);
                DUE.answer(scene, "sleep(" + s + ", 3, true)", 1 - faulty);
                for (int i = 0; i < 3; i++) {
                    DUE.answer(scene, "tick(" + s + ", " + i + ")", 1);
                    DUE.answer(scene, "lie(" + s + ", 1, 0, -1, " + i + ")", faulty);
                }
            }
        }
    }

    private static void nothingAtTheBeginning() {
        DUE.sentence("No transactions, requests or messages.");
        for (int liars : new int[] {0, 1, 2, 3, 4, -1, MIN, MAX}) {
            Scene scene = Scene.of(liars);
            DUE.answer(scene, "transaction(0)", BAD);
            DUE.answer(scene, "requests()", 0);
            DUE.answer(scene, "request(0, 0)", -2);
            for (int s = 0; s < 2; s++) {
                DUE.answer(scene, "messages(" + s + ")", 0);
                DUE.answer(scene, "message(" + s + ", 0, 0)", -2);
                for (int i = 0; i < 4; i++) {
                    DUE.replica("beginning", scene.play(), s, i, 0, 0, 0, -1, -1, -1, -1);
                    DUE.answer(scene, "executed(" + s + ", " + i + ", 0)", -1);
                    DUE.answer(scene, "value(" + s + ", " + i + ")", 200);
                }
            }
        }
    }

    private static void howManyMessages() {
        DUE.sentence("How many messages were sent in a shard; BAD when there is no such shard.");
        for (Scene scene : Scenes.all()) {
            DUE.refusedFor(scene, BAD, "messages($)", -1, 2, 3, MIN, MAX);
        }
        DUE.answer(Scenes.BUSY, "messages(0)", 8);
        DUE.answer(Scenes.BUSY, "messages(1)", 2);
        Scene scene = Scene.of(0);
        for (int i = 0; i < 4; i++) {
            DUE.answer(scene, "messages(1)", i);
            DUE.answer(scene, "messages(0)", 0);
            scene = scene.then("tick(1, " + i + ")");
        }
        DUE.answer(scene, "messages(1)", 4);
    }

    private static void noSuchMessage() {
        DUE.sentence("-2 when there is no such message");
        for (int what = 0; what < 6; what++) {
            DUE.refusedFor(Scenes.NEW, -2, "message(0, $, " + what + ")", -1, 0, 1, MIN, MAX);
            DUE.refusedFor(Scenes.BUSY, -2, "message(0, $, " + what + ")", -1, 8, 9, MIN, MAX);
            DUE.refusedFor(Scenes.BUSY, -2, "message(1, $, " + what + ")", -1, 2, 7, MIN, MAX);
            DUE.refusedFor(Scenes.BUSY, -2, "message($, 0, " + what + ")", -1, 2, MIN, MAX);
        }
        DUE.message("first", Scenes.BUSY.play(), 0, 0, 0, 0, 0, 0, 0, -1);
        DUE.message("last", Scenes.BUSY.play(), 0, 7, 1, 0, 1, 0, -1, -1);
        DUE.message("last of shard 1", Scenes.BUSY.play(), 1, 1, 1, 0, 0, 0, 1, -1);
    }

    private static void noSuchThingOfAMessage() {
        DUE.sentence("-2 when there is no such .. what");
        for (int k = 0; k < 8; k += 7) {
            DUE.refusedFor(Scenes.BUSY, -2, "message(0, " + k + ", $)", -1, 6, 7, MIN, MAX);
        }
        DUE.answer(Scenes.BUSY, "message(0, 7, 0)", 1);
        DUE.answer(Scenes.BUSY, "message(0, 7, 5)", -1);
        DUE.refused(Scenes.BUSY, "message(MAX, MIN, MAX)", -2);
    }

    private static void candidatesRound() {
        DUE.sentence("5 round of the candidate (-1 in votes and seals)");
        // Replica 1 seals request 0 in round 0, and proposes it again in round 1.
        ShardLedger x = Scene.of(0, "submit(0, -1, 30)", "deliver(0, 0, 1)", "deliver(0, 0, 2)", "deliver(0, 1, 1)",
            "deliver(0, 3, 1)", "tick(0, 3)", "deliver(0, 2, 0)", "deliver(0, 5, 0)", "tick(0, 0)", "deliver(0, 1, 3)",
            "deliver(0, 2, 3)", "tick(0, 3)", "deliver(0, 6, 1)", "deliver(0, 7, 1)", "tick(0, 1)").play();
        int[] kinds = {0, 1, 1, 1, 2, 1, 2, 2, 0, 1};
        for (int k = 0; k < 10; k++) {
            DUE.is("kind of " + k, x.message(0, k, 0), kinds[k]);
            DUE.is("candidate's round of " + k, x.message(0, k, 5), k == 8 ? 0 : -1);
        }
        DUE.is("messages(0)", x.messages(0), 10);
    }

    private static void noSuchReplica() {
        DUE.sentence("-2 when there is no such shard, replica or what");
        for (Scene scene : new Scene[] {Scenes.NEW, Scenes.BUSY}) {
            for (int what = 0; what < 7; what++) {
                DUE.refusedFor(scene, -2, "replica($, 0, " + what + ")", -1, 2, MIN, MAX);
                DUE.refusedFor(scene, -2, "replica(0, $, " + what + ")", -1, 4, MIN, MAX);
                DUE.refusedFor(scene, -2, "replica(1, $, " + what + ")", -1, 4, MIN, MAX);
            }
        }
        DUE.answer(Scenes.BUSY, "replica(0, 0, 0)", 1);
        DUE.answer(Scenes.BUSY, "replica(1, 3, 0)", 0);
    }

    private static void noSuchThingOfAReplica() {
        DUE.sentence("-2 when there is no such .. what");
        for (int n = 0; n < 8; n++) {
            DUE.refusedFor(Scenes.BUSY, -2, "replica(" + n / 4 + ", " + n % 4 + ", $)", -1, 7, 8, MIN, MAX);
        }
        DUE.replica("the leader", Scenes.BUSY.play(), 0, 0, 1, 0, 1, -1, -1, -1, -1);
        DUE.replica("one that has sealed", Scenes.BUSY.play(), 0, 1, 0, 0, 2, 0, 0, 0, 0);
        DUE.replica("another", Scenes.BUSY.play(), 0, 2, 0, 0, 2, 0, 0, 0, 0);
        DUE.replica("the faulty one", Scenes.BUSY.play(), 0, 3, 0, 0, 0, -1, -1, -1, -1);
    }

    private static void lockAndCandidateOfNone() {
        DUE.sentence("3 the request of its lock, 4 the round of that, 5 and 6 of its candidate likewise (-1 for none)");
        // A candidate without a lock: the third vote comes after the seal of none.
        ShardLedger x = Scene.of(0, "submit(1, -1, 30)", "submit(0, -1, 30)", "deliver(0, 0, 1)", "deliver(0, 0, 2)",
            "tick(0, 3)", "deliver(0, 2, 0)", "deliver(0, 4, 0)", "tick(0, 0)", "deliver(0, 3, 0)").play();
        DUE.replica("a candidate alone", x, 0, 0, 0, 0, 2, -1, -1, 1, 0);
        ShardLedger y = Scene.of(0, "submit(1, -1, 30)").toRound(0, 3, 5).then("submit(0, -1, 30)", "deliver(0, 40, 0)",
            "deliver(0, 40, 2)", "deliver(0, 42, 1)", "deliver(0, 43, 1)").play();
        DUE.replica("lock and candidate with round 5", y, 0, 1, 0, 5, 2, 1, 5, 1, 5);
    }

    private static void executedInOrder() {
        DUE.sentence("The k-th request (from 0) that a replica has executed");
        Scene most = Scene.of(0).times(8, "submit(1, 0, 50)").then("flood(0)", "flood(1)", "client()", "flood(0)", "flood(1)");
        for (int n = 0; n < 8; n++) {
            ShardLedger x = most.play();
            for (int k = 0; k < 16; k++) {
                DUE.is("executed " + k, x.executed(n / 4, n % 4, k), 2 * k + n / 4);
            }
            DUE.is("executed 16", x.executed(n / 4, n % 4, 16), -1);
        }
        DUE.answer(Scenes.BUSY, "executed(0, 0, 0)", 0);
    }

    private static void nothingExecuted() {
        DUE.sentence("-1 when there is none");
        for (int n = 0; n < 8; n++) {
            DUE.refusedFor(Scenes.NEW, -1, "executed(" + n / 4 + ", " + n % 4 + ", $)", -1, 0, 1, MIN, MAX);
        }
        DUE.refusedFor(Scenes.BUSY, -1, "executed(0, 0, $)", -1, 1, 2, 15, 16, 31, 32, MIN, MAX);
        DUE.refusedFor(Scenes.BUSY, -1, "executed(0, 1, $)", -1, 0, 1, MIN, MAX);
        DUE.refusedFor(Scenes.BUSY, -1, "executed($, 0, 0)", -1, 1, 2, MIN, MAX);
        DUE.refusedFor(Scenes.BUSY, -1, "executed(0, $, 0)", -1, 1, 2, 3, 4, MIN, MAX);
    }

    private static void outputsOfShards() {
        DUE.sentence("BAD when there is no such shard or replica");
        for (Scene scene : new Scene[] {Scenes.NEW, Scenes.BUSY}) {
            DUE.refusedFor(scene, BAD, "output($, 0, 0)", -1, 2, MIN, MAX);
            DUE.refusedFor(scene, BAD, "output($, 0, 1)", -1, 3, MIN, MAX);
            DUE.refusedFor(scene, BAD, "output(0, $, 0)", -1, 4, MIN, MAX);
            DUE.refusedFor(scene, BAD, "output(1, $, 1)", -1, 4, MIN, MAX);
            DUE.answer(scene, "output(1, 3, 1)", 1);
        }
        DUE.answer(Scenes.BUSY, "output(0, 0, 0)", 2);
    }

    private static void noSuchOutput() {
        DUE.sentence("or the output is of the other shard or not 0 .. 19");
        for (Scene scene : new Scene[] {Scenes.NEW, Scenes.BUSY, Scenes.FULL}) {
            DUE.refusedFor(scene, BAD, "output(0, 0, $)", -2, -1, 1, 3, 5, 17, 19, 20, 21, 22, MIN, MAX, MIN + 1, MAX - 1);
            DUE.refusedFor(scene, BAD, "output(1, 3, $)", -2, -1, 0, 2, 4, 18, 20, 21, 22, MIN, MAX, MIN + 1, MAX - 1);
        }
        DUE.answer(Scenes.NEW, "output(0, 0, 0)", 1);
        DUE.answer(Scenes.NEW, "output(0, 0, 18)", 0);
        DUE.answer(Scenes.NEW, "output(1, 3, 1)", 1);
        DUE.answer(Scenes.NEW, "output(1, 3, 19)", 0);
    }

    private static void whatIsKeptOfAnOutput() {
        DUE.sentence("What a replica keeps of an output, 0 to 3");
        Scene scene = Scene.of(0).times(7, "submit(2, -1, 100)").then("submit(0, 1, 50)");
        int[] even = {1, 0};
        keeps(scene, even[0], even[1]);
        Scene locked = scene.then("flood(0)", "flood(1)");
        keeps(locked, 2, 0);
        Scene done = locked.then("client()", "flood(0)", "flood(1)");
        keeps(done, 3, 1);
        keeps(done.then("client()"), 3, 1);
    }

    /** Of output 0 and 1, and of 18 and 19, at all replicas. */
    private static void keeps(Scene scene, int inputs, int outputs) {
        for (int i = 0; i < 4; i++) {
            DUE.answer(scene, "output(0, " + i + ", 0)", inputs);
            DUE.answer(scene, "output(1, " + i + ", 1)", inputs);
            DUE.answer(scene, "output(0, " + i + ", 18)", outputs);
            DUE.answer(scene, "output(1, " + i + ", 19)", outputs);
        }
    }

    private static void unspentOrLocked() {
        DUE.sentence("The sum of the amounts of outputs that are unspent or locked for a replica");
        Scene scene = Scene.of(0, "submit(0, 2, 30)");
        values(scene, 200, 200);
        Scene locked = scene.then("flood(0)");
        values(locked, 200, 200);
        Scene made = locked.then("client()");
        values(made, 200, 200);
        values(made.then("flood(0)"), 30, 200);
        values(made.then("flood(1)"), 200, 370);
        values(made.then("flood(0)", "flood(1)"), 30, 370);
        Scene nothing = Scene.of(0, "submit(0, 2, 0)", "flood(0)", "client()", "flood(0)", "flood(1)");
        values(nothing, 0, 400);
        Scene all = Scene.of(0, "submit(3, 1, 200)", "flood(1)", "client()", "flood(0)", "flood(1)");
        values(all, 400, 0);
        // Each replica for itself: 0 alone has executed it.
        Scene one = Scenes.BUSY;
        DUE.answer(one, "output(0, 0, 0)", 2);
        DUE.answer(one, "value(0, 0)", 200);
        DUE.answer(one, "value(0, 3)", 200);
    }

    private static void values(Scene scene, int shard0, int shard1) {
        for (int i = 0; i < 4; i++) {
            DUE.answer(scene, "value(0, " + i + ")", shard0);
            DUE.answer(scene, "value(1, " + i + ")", shard1);
        }
    }

    private static void noSuchValue() {
        DUE.sentence("BAD when there is no such shard or replica");
        for (Scene scene : Scenes.all()) {
            DUE.refusedFor(scene, BAD, "value($, 0)", -1, 2, MIN, MAX);
            DUE.refusedFor(scene, BAD, "value(0, $)", -1, 4, MIN, MAX);
            DUE.refusedFor(scene, BAD, "value(1, $)", -1, 4, MIN, MAX);
        }
        DUE.answer(Scenes.NEW, "value(0, 0)", 200);
        DUE.answer(Scenes.NEW, "value(1, 3)", 200);
    }

    private static void noSuchRequest() {
        DUE.sentence("-2 when there is no such request");
        for (int what = 0; what < 4; what++) {
            DUE.refusedFor(Scenes.NEW, -2, "request($, " + what + ")", -1, 0, 1, MIN, MAX);
            DUE.refusedFor(Scenes.BUSY, -2, "request($, " + what + ")", -1, 4, 5, 31, 32, MIN, MAX);
        }
        DUE.request("first", Scenes.BUSY.play(), 0, 0, 0, 0, 0);
        DUE.request("last", Scenes.BUSY.play(), 3, 1, 0, 1, 0);
    }

    private static void noSuchThingOfARequest() {
        DUE.sentence("-2 when there is no such .. what");
        for (int q = 0; q < 4; q++) {
            DUE.refusedFor(Scenes.BUSY, -2, "request(" + q + ", $)", -1, 4, 5, MIN, MAX);
        }
        DUE.refused(Scenes.BUSY, "request(MAX, MIN)", -2);
    }

    private static void askingChangesNothing() {
        DUE.sentence("Nothing is promised beyond the answers and state changes described above");
        for (Scene scene : Scenes.all()) {
            int[] answers = scene.picture();
            for (int n = 0; n < answers.length; n += 7) {
                DUE.refused(scene, scene.questions().get(n).toString(), answers[n]);
            }
        }
    }
}
