/** The boundaries of promises 4 and 5. */
public final class DeliverEdgesTest {
    private static final Due DUE = new Due("DeliverEdgesTest");
    private static final int BAD = ShardLedger.BAD;
    private static final int MIN = Integer.MIN_VALUE;
    private static final int MAX = Integer.MAX_VALUE;

    public static void main(String[] args) {
        takesAndActs();
        noSuchShard();
        noSuchMessage();
        noSuchReplica();
        faulty();
        asleep();
        takenAlready();
        heightBelow();
        lowerHeights();
        floodOfNoShard();
        floodOfNothing();
        floodInOrder();
        floodOfThoseThatCanTake();
        floodAgain();
        floodOfThoseSentMeanwhile();
        floodIsManyDeliveries();
        DUE.end();
    }

    private static void takesAndActs() {
        DUE.sentence("A message is delivered to a replica, which takes it and acts: true.");
        Scene scene = Scene.of(0, "submit(0, 1, 50)");
        for (int s = 0; s < 2; s++) {
            for (int i = 1; i < 4; i++) {
                ShardLedger x = scene.play();
                DUE.yes("the proposal to " + i, x.deliver(s, 0, i));
                DUE.message("its vote", x, s, 2, 1, i, 0, 0, s, -1);
                DUE.replica("it", x, s, i, 0, 0, 1, -1, -1, -1, -1);
                DUE.is("only it acts", x.messages(s), 3);
                DUE.is("only in its shard", x.messages(1 - s), 2);
            }
        }
    }

    private static void noSuchShard() {
        DUE.sentence("False when there is no such shard");
        for (Scene scene : Scenes.all()) {
            DUE.refusedFor(scene, 0, "deliver($, 0, 1)", -1, 2, MIN, MAX);
        }
        DUE.answer(Scenes.BUSY, "deliver(1, 0, 1)", 1);
        DUE.answer(Scenes.BUSY, "deliver(1, 1, 3)", 1);
    }

    private static void noSuchMessage() {
        DUE.sentence("False when there is no such .. message");
        for (int s = 0; s < 2; s++) {
            DUE.refusedFor(Scenes.NEW, 0, "deliver(" + s + ", $, 1)", -1, 0, 1, MIN, MAX);
        }
        DUE.answer(Scenes.BUSY, "messages(0)", 8);
        DUE.answer(Scenes.BUSY, "messages(1)", 2);
        DUE.answer(Scenes.BUSY, "deliver(0, 6, 2)", 1);
        DUE.answer(Scenes.BUSY, "deliver(1, 1, 1)", 1);
        DUE.refusedFor(Scenes.BUSY, 0, "deliver(0, $, 0)", -1, 8, 9, 1000, MIN, MAX);
        DUE.refusedFor(Scenes.BUSY, 0, "deliver(1, $, 1)", -1, 2, 3, 7, 1000, MIN, MAX);
        int sent = Scenes.FULL.play().messages(0);
        DUE.refusedFor(Scenes.FULL, 0, "deliver(0, $, 3)", -1, sent, sent + 1, MIN, MAX);
        DUE.answer(Scenes.FULL, "deliver(0, " + (sent - 1) + ", 3)", 1);
    }

    private static void noSuchReplica() {
        DUE.sentence("False when there is no such .. replica");
        for (Scene scene : Scenes.all()) {
            DUE.refusedFor(scene, 0, "deliver(0, 0, $)", -1, 4, 5, MIN, MAX);
            DUE.refusedFor(scene, 0, "deliver(1, 1, $)", -1, 4, 5, MIN, MAX);
        }
        Scene scene = Scene.of(0, "sleep(0, 0, true)", "submit(0, -1, 50)", "tick(0, 1)");
        DUE.answer(scene.then("sleep(0, 0, false)"), "deliver(0, 0, 0)", 1);
        DUE.answer(scene, "deliver(0, 0, 3)", 1);
        DUE.refused(Scenes.BUSY, "deliver(MAX, MAX, MAX)", 0);
        DUE.refused(Scenes.BUSY, "deliver(MIN, MIN, MIN)", 0);
        DUE.refused(Scenes.BUSY, "deliver(-1, -1, -1)", 0);
    }

    private static void faulty() {
        DUE.sentence("the replica is faulty");
        for (int liars = 0; liars < 4; liars++) {
            Scene scene = Scene.of(liars, "submit(0, 1, 50)");
            for (int s = 0; s < 2; s++) {
                String call = "deliver(" + s + ", 0, 3)";
                if ((liars >> s & 1) == 1) {
                    DUE.refused(scene, call, 0);
                } else {
                    DUE.answer(scene, call, 1);
                }
            }
        }
    }

    private static void asleep() {
        DUE.sentence("the replica is .. asleep");
        DUE.refused(Scenes.BUSY, "deliver(1, 0, 2)", 0);
        DUE.refused(Scenes.BUSY, "deliver(1, 1, 2)", 0);
        DUE.answer(Scenes.BUSY.then("sleep(1, 2, false)"), "deliver(1, 0, 2)", 1);
        DUE.answer(Scenes.BUSY.then("sleep(1, 2, false)"), "deliver(1, 1, 2)", 1);
    }

    private static void takenAlready() {
        DUE.sentence("has taken it already");
        // Own messages, messages that were delivered, and all of a replica that has gone on to the next height.
        DUE.refused(Scenes.BUSY, "deliver(0, 0, 0)", 0);
        DUE.refused(Scenes.BUSY, "deliver(0, 4, 0)", 0);
        DUE.refused(Scenes.BUSY, "deliver(0, 7, 0)", 0);
        DUE.refused(Scenes.BUSY, "deliver(0, 0, 1)", 0);
        DUE.refused(Scenes.BUSY, "deliver(0, 2, 1)", 0);
        DUE.refused(Scenes.BUSY, "deliver(0, 6, 1)", 0);
        DUE.answer(Scenes.BUSY, "deliver(0, 4, 1)", 1);
        DUE.refused(Scenes.BUSY.then("deliver(0, 4, 1)"), "deliver(0, 4, 1)", 0);
        DUE.answer(Scenes.BUSY, "deliver(0, 6, 2)", 1);
        Scene flooded = Scene.of(0, "submit(0, -1, 50)", "flood(0)");
        for (int n = 0; n < 36; n++) {
            DUE.refused(flooded, "deliver(0, " + n / 4 + ", " + n % 4 + ")", 0);
        }
        Scene slept = Scenes.BUSY.then("deliver(0, 4, 1)", "sleep(0, 1, true)", "sleep(0, 1, false)");
        DUE.refused(slept, "deliver(0, 4, 1)", 0);
    }

    private static void heightBelow() {
        DUE.sentence("or has a height below the message's");
        DUE.answer(Scenes.BUSY, "message(0, 7, 2)", 1);
        DUE.answer(Scenes.BUSY, "replica(0, 1, 0)", 0);
        DUE.refused(Scenes.BUSY, "deliver(0, 7, 1)", 0);
        DUE.refused(Scenes.BUSY, "deliver(0, 7, 2)", 0);
        Scene grown = Scenes.BUSY.then("deliver(0, 4, 1)", "deliver(0, 5, 1)");
        DUE.answer(grown, "replica(0, 1, 0)", 1);
        DUE.answer(grown, "deliver(0, 7, 1)", 1);
        DUE.refused(grown, "deliver(0, 7, 2)", 0);
        // Two heights below: 9 messages for each of two requests, and one more.
        Scene far = Scene.of(0, "sleep(0, 3, true)", "submit(0, -1, 50)", "submit(2, -1, 50)", "flood(0)", "tick(0, 0)",
            "sleep(0, 3, false)");
        DUE.answer(far, "message(0, 14, 2)", 2);
        DUE.refused(far, "deliver(0, 14, 3)", 0);
        DUE.refused(far, "deliver(0, 7, 3)", 0);
        DUE.answer(far, "message(0, 6, 2)", 0);
        DUE.answer(far, "deliver(0, 6, 3)", 1);
    }

    private static void lowerHeights() {
        DUE.sentence("(A message of a lower height is taken, too.)");
        // Replica 0 of height 1 has not taken message 5 of 7, which is its own; 2 gets a late vote of height 0.
        Scene scene = Scene.of(0, "submit(0, -1, 50)", "sleep(0, 3, true)", "flood(0)", "sleep(0, 3, false)", "tick(0, 3)");
        DUE.answer(scene, "message(0, 7, 2)", 0);
        for (int i = 0; i < 3; i++) {
            DUE.answer(scene, "replica(0, " + i + ", 0)", 1);
            String late = "deliver(0, 7, " + i + ")";
            DUE.answer(scene, late, 1);
            DUE.refused(scene.then(late), late, 0);
            ShardLedger x = scene.then("tick(0, " + i + ")", late).play();
            DUE.replica("it does not count", x, 0, i, 1, 0, 1, -1, -1, -1, -1);
        }
        Scene two = scene.then("submit(2, -1, 50)", "flood(0)");
        DUE.answer(two, "replica(0, 0, 0)", 2);
        Scene late = Scene.of(0, "sleep(0, 3, true)", "submit(0, -1, 50)", "submit(2, -1, 50)", "flood(0)",
            "sleep(0, 3, false)", "tick(0, 3)");
        DUE.answer(late, "message(0, 14, 2)", 0);
        DUE.answer(late, "replica(0, 0, 0)", 2);
        DUE.answer(late, "deliver(0, 14, 0)", 1);
        DUE.refused(late.then("deliver(0, 14, 0)"), "deliver(0, 14, 0)", 0);
    }

    private static void floodOfNoShard() {
        DUE.sentence("BAD when there is no such shard");
        for (Scene scene : Scenes.all()) {
            DUE.refusedFor(scene, BAD, "flood($)", -1, 2, 3, MIN, MAX);
        }
        DUE.answer(Scenes.NEW, "flood(0)", 0);
        DUE.answer(Scenes.NEW, "flood(1)", 0);
    }

    private static void floodOfNothing() {
        DUE.sentence("until nothing was delivered in a whole round. Answers how many deliveries there were");
        DUE.refused(Scenes.NEW, "flood(0)", 0);
        DUE.refused(Scenes.NEW_WITH_LIARS, "flood(1)", 0);
        Scene scene = Scene.of(0, "submit(0, -1, 50)");
        DUE.refused(scene, "flood(1)", 0);
        DUE.answer(scene, "flood(0)", 27);
        DUE.refused(scene.then("flood(0)"), "flood(0)", 0);
        Scene sleepers = scene.then("sleep(0, 1, true)", "sleep(0, 2, true)", "sleep(0, 3, true)");
        DUE.refused(sleepers, "flood(0)", 0);
        DUE.answer(sleepers.then("sleep(0, 2, false)"), "flood(0)", 3);
    }

    private static void floodInOrder() {
        DUE.sentence("Goes through all messages of a shard, in order (those sent meanwhile, too), and delivers each to each"
            + " replica that can take it, in order");
        ShardLedger x = Scene.of(0, "submit(0, -1, 50)", "flood(0)").play();
        int[] kinds = {0, 1, 1, 1, 1, 2, 2, 2, 2};
        int[] senders = {0, 0, 1, 2, 3, 2, 3, 0, 1};
        for (int k = 0; k < 9; k++) {
            DUE.message("message " + k, x, 0, k, kinds[k], senders[k], 0, 0, 0, -1);
        }
        DUE.is("messages(0)", x.messages(0), 9);
        // Two requests in one flood: the second one's messages are sent meanwhile.
        Scene two = Scene.of(0, "submit(0, -1, 50)", "submit(2, -1, 50)");
        DUE.answer(two, "flood(0)", 54);
        DUE.answer(two.then("flood(0)"), "messages(0)", 18);
        DUE.answer(two.then("flood(0)"), "messages(1)", 0);
    }

    private static void floodOfThoseThatCanTake() {
        DUE.sentence("delivers each to each replica that can take it");
        DUE.answer(Scene.of(1, "submit(0, -1, 50)"), "flood(0)", 14);
        DUE.answer(Scene.of(0, "submit(0, -1, 50)", "sleep(0, 2, true)"), "flood(0)", 14);
        DUE.answer(Scene.of(1, "submit(0, -1, 50)", "sleep(0, 2, true)"), "flood(0)", 3);
        DUE.answer(Scene.of(0, "submit(0, -1, 50)", "deliver(0, 0, 3)"), "flood(0)", 26);
    }

    /** 0 executes with the liar's seal, and votes at height 1 before 2 has sent the third seal of height 0. */
    private static void floodAgain() {
        DUE.sentence("and again, until nothing was delivered in a whole round");
        Scene scene = Scene.of(1, "submit(0, -1, 50)", "deliver(0, 0, 1)", "deliver(0, 1, 1)", "lie(0, 1, 0, 0, 1)",
            "deliver(0, 2, 0)", "lie(0, 1, 0, 0, 0)", "deliver(0, 3, 0)", "lie(0, 2, 0, 0, 0)", "tick(0, 0)");
        DUE.answer(scene, "replica(0, 0, 0)", 1);
        DUE.answer(scene, "message(0, 5, 2)", 1);
        DUE.refused(scene, "deliver(0, 5, 1)", 0);
        // 0 to 4 to replica 2, 4 to replica 1, then 6 and 7 of replica 2 to both others; 5 to both in the second round.
        DUE.answer(scene, "flood(0)", 5 + 1 + 4 + 2);
        Scene flooded = scene.then("flood(0)");
        DUE.answer(flooded, "replica(0, 1, 0)", 1);
        DUE.answer(flooded, "replica(0, 2, 0)", 1);
        DUE.answer(flooded, "messages(0)", 8);
        DUE.refused(flooded, "deliver(0, 5, 1)", 0);
        DUE.refused(flooded, "deliver(0, 5, 2)", 0);
        DUE.refused(flooded, "flood(0)", 0);
    }

    /**
     * 1 has gone on to height 1 with the liar's seal, and has proposed there (6) and voted (7), before 0 has sent the
     * seal (8) that 2 needs. In the first round of the flood 0 votes at height 1 (9), 2 goes on, and 1 seals with the
     * votes of 0 and of the liar (10); 6 and 7 come to 2 only in the second one.
     */
    private static void floodOfThoseSentMeanwhile() {
        DUE.sentence("Goes through all messages of a shard, in order (those sent meanwhile, too)");
        Scene scene = Scene.of(1, "submit(0, -1, 100)", "submit(2, -1, 100)", "deliver(0, 0, 1)", "deliver(0, 0, 2)",
            "deliver(0, 1, 1)", "deliver(0, 3, 1)", "deliver(0, 1, 2)", "deliver(0, 2, 2)", "deliver(0, 5, 1)",
            "lie(0, 2, 0, 0, 1)", "lie(0, 1, 0, 1, 1)", "deliver(0, 4, 2)", "deliver(0, 2, 0)", "deliver(0, 3, 0)",
            "deliver(0, 4, 0)", "deliver(0, 5, 0)");
        DUE.message("proposal of 1", scene.play(), 0, 6, 0, 1, 1, 0, 1, -1);
        DUE.message("seal of 0", scene.play(), 0, 8, 2, 0, 0, 0, 0, -1);
        DUE.answer(scene, "messages(0)", 9);
        DUE.answer(scene, "flood(0)", 16);
        ShardLedger x = scene.then("flood(0)").play();
        DUE.message("vote of 0", x, 0, 9, 1, 0, 1, 0, 1, -1);
        DUE.message("seal of 1", x, 0, 10, 2, 1, 1, 0, 1, -1);
        DUE.message("vote of 2", x, 0, 11, 1, 2, 1, 0, 1, -1);
        DUE.message("seal of 2", x, 0, 12, 2, 2, 1, 0, 1, -1);
        DUE.message("seal of 0", x, 0, 13, 2, 0, 1, 0, 1, -1);
        DUE.is("messages(0)", x.messages(0), 14);
    }

    private static void floodIsManyDeliveries() {
        DUE.sentence("delivers each to each replica that can take it, in order; and again");
        for (Scene scene : new Scene[] {Scene.of(0, "submit(0, 1, 50)"), Scene.of(3, "submit(3, 0, 50)"), Scenes.BUSY}) {
            for (int s = 0; s < 2; s++) {
                ShardLedger one = scene.play();
                ShardLedger other = scene.play();
                DUE.is("flood(" + s + ")", one.flood(s), deliverAll(other, s));
                for (int n = 0; n < 28; n++) {
                    DUE.is("replica", one.replica(s, n % 4, n / 4), other.replica(s, n % 4, n / 4));
                }
                for (int k = 0; k < one.messages(s); k++) {
                    DUE.is("sender of " + k, one.message(s, k, 1), other.message(s, k, 1));
                }
            }
        }
    }

    private static int deliverAll(ShardLedger x, int s) {
        int total = 0;
        int before = -1;
        while (total != before) {
            before = total;
            for (int k = 0; k < x.messages(s); k++) {
                for (int i = 0; i < 4; i++) {
                    total += x.deliver(s, k, i) ? 1 : 0;
                }
            }
        }
        return total;
    }
}
