/** The boundaries of promise 6. */
public final class TickEdgesTest {
    private static final Due DUE = new Due("TickEdgesTest");
    private static final int MIN = Integer.MIN_VALUE;
    private static final int MAX = Integer.MAX_VALUE;

    public static void main(String[] args) {
        stepZero();
        stepOneVotes();
        stepOneVotesOfItsRound();
        stepTwoSeals();
        stepTwoSealsOfItsRound();
        notRound5();
        thenItActs();
        noSuchShard();
        noSuchReplica();
        faultyOrAsleep();
        DUE.end();
    }

    private static void stepZero() {
        DUE.sentence("with step 0, it votes for none (with its round); step 1");
        for (int r = 0; r < 6; r++) {
            Scene scene = Scene.of(0).toRound(1, 3, r);
            for (int i = 0; i < 4; i++) {
                ShardLedger x = scene.play();
                DUE.yes("tick(1, " + i + ") in round " + r, x.tick(1, i));
                DUE.message("vote for none", x, 1, 8 * r, 1, i, 0, r, -1, -1);
                DUE.replica("step 1", x, 1, i, 0, r, 1, -1, -1, -1, -1);
                DUE.is("messages(1)", x.messages(1), 8 * r + 1);
            }
        }
    }

    private static void stepOneVotes() {
        DUE.sentence("With step 1, when it has votes of three different senders with its round, it seals none; step 2.");
        // 0 proposal, 1 vote of 0, 2 and 3 votes for none of 1 and 2, 4 vote of 3
        Scene one = Scene.of(0, "submit(0, -1, 50)", "tick(0, 1)", "tick(0, 2)", "deliver(0, 0, 3)");
        DUE.refused(one, "tick(0, 0)", 0);
        Scene two = one.then("deliver(0, 2, 0)");
        DUE.refused(two, "tick(0, 0)", 0);
        DUE.refused(one.then("deliver(0, 4, 0)"), "tick(0, 0)", 0);
        Scene three = two.then("deliver(0, 3, 0)");
        DUE.answer(three, "replica(0, 0, 2)", 1);
        DUE.answer(three, "tick(0, 0)", 1);
        DUE.answer(two.then("deliver(0, 4, 0)"), "tick(0, 0)", 1);
        DUE.answer(three.then("deliver(0, 4, 0)"), "tick(0, 0)", 1);
        ShardLedger x = three.then("tick(0, 0)").play();
        DUE.message("seal of none", x, 0, 5, 2, 0, 0, 0, -1, -1);
        DUE.replica("step 2", x, 0, 0, 0, 0, 2, -1, -1, -1, -1);
        DUE.is("messages(0)", x.messages(0), 6);
    }

    private static void stepOneVotesOfItsRound() {
        DUE.sentence("votes of three different senders with its round");
        Scene two = Scene.of(1, "submit(0, 1, 50)", "tick(0, 1)", "deliver(0, 2, 0)");
        DUE.refused(two, "tick(0, 0)", 0);
        DUE.refused(two.then("lie(0, 1, 1, 0, 0)"), "tick(0, 0)", 0);
        DUE.refused(two.then("lie(0, 1, 5, -1, 0)"), "tick(0, 0)", 0);
        DUE.refused(two.then("lie(0, 2, 0, 0, 0)"), "tick(0, 0)", 0);
        DUE.refused(two.then("lie(0, 0, 0, 0, 0)"), "tick(0, 0)", 0);
        DUE.answer(two.then("lie(0, 1, 0, 0, 0)"), "tick(0, 0)", 1);
        DUE.answer(two.then("lie(0, 1, 0, -1, 0)"), "tick(0, 0)", 1);
        DUE.answer(two.then("lie(0, 1, 0, 1, 0)"), "tick(0, 0)", 1);
        // In round 1 the votes of round 0 are no more.
        Scene later = Scene.of(1, "submit(1, -1, 50)").toRound(0, 2, 1).then("tick(0, 0)");
        DUE.refused(later, "tick(0, 0)", 0);
        DUE.refused(later.then("lie(0, 1, 0, -1, 0)", "lie(0, 1, 1, 0, 0)"), "tick(0, 0)", 0);
        DUE.answer(later.then("lie(0, 1, 1, 0, 0)", "tick(0, 1)", "flood(0)"), "tick(0, 0)", 1);
    }

    /** 0 proposal, 1 vote of 0, 2 and 3 votes for none of 1 and 2, 4, 5 and 6 seals of none of 0, 1 and 2. */
    private static Scene oneSeal(int liars) {
        return Scene.of(liars, "submit(0, 1, 50)", "tick(0, 1)", "tick(0, 2)", "deliver(0, 2, 0)", "deliver(0, 3, 0)",
            "tick(0, 0)", "deliver(0, 1, 1)", "deliver(0, 3, 1)", "tick(0, 1)", "deliver(0, 1, 2)", "deliver(0, 2, 2)",
            "tick(0, 2)");
    }

    private static void stepTwoSeals() {
        DUE.sentence("With step 2, when it has seals of three different senders with its round and that is not 5, its round"
            + " grows by 1; step 0.");
        Scene one = oneSeal(0);
        DUE.answer(one, "messages(0)", 7);
        DUE.refused(one, "tick(0, 0)", 0);
        Scene two = one.then("deliver(0, 5, 0)");
        DUE.refused(two, "tick(0, 0)", 0);
        DUE.refused(one.then("deliver(0, 6, 0)"), "tick(0, 0)", 0);
        Scene three = two.then("deliver(0, 6, 0)");
        DUE.answer(three, "tick(0, 0)", 1);
        ShardLedger x = three.then("tick(0, 0)").play();
        DUE.replica("round 1", x, 0, 0, 0, 1, 0, -1, -1, -1, -1);
        DUE.is("messages(0)", x.messages(0), 7);
    }

    private static void stepTwoSealsOfItsRound() {
        DUE.sentence("seals of three different senders with its round");
        Scene two = oneSeal(1).then("deliver(0, 5, 0)");
        DUE.refused(two, "tick(0, 0)", 0);
        DUE.refused(two.then("lie(0, 2, 1, 0, 0)"), "tick(0, 0)", 0);
        DUE.refused(two.then("lie(0, 1, 0, 0, 0)"), "tick(0, 0)", 0);
        DUE.refused(two.then("lie(0, 0, 0, 0, 0)"), "tick(0, 0)", 0);
        DUE.answer(two.then("lie(0, 2, 0, 0, 0)"), "tick(0, 0)", 1);
        DUE.answer(two.then("lie(0, 2, 0, -1, 0)"), "tick(0, 0)", 1);
        DUE.answer(two.then("lie(0, 2, 0, 1, 0)"), "tick(0, 0)", 1);
        // Seals for a request and for none are seals of different senders, too.
        Scene mixed = Scene.of(0, "submit(0, -1, 50)", "deliver(0, 0, 1)", "deliver(0, 0, 2)", "deliver(0, 2, 0)",
            "deliver(0, 3, 0)", "tick(0, 3)", "deliver(0, 1, 3)", "deliver(0, 2, 3)", "tick(0, 3)", "deliver(0, 1, 1)",
            "deliver(0, 3, 1)", "deliver(0, 6, 0)");
        DUE.refused(mixed, "tick(0, 0)", 0);
        DUE.answer(mixed, "message(0, 6, 4)", -1);
        DUE.answer(mixed, "message(0, 7, 4)", 0);
        DUE.answer(mixed.then("deliver(0, 7, 0)"), "tick(0, 0)", 1);
    }

    private static void notRound5() {
        DUE.sentence("and that is not 5");
        for (int r = 0; r < 6; r++) {
            Scene sealed = Scene.of(0).toRound(0, 3, r).then("tick(0, 0)", "tick(0, 1)", "tick(0, 2)", "tick(0, 3)",
                "flood(0)");
            for (int i = 0; i < 4; i++) {
                String call = "tick(0, " + i + ")";
                DUE.replica("round " + r, sealed.play(), 0, i, 0, r, 2, -1, -1, -1, -1);
                if (r < 5) {
                    DUE.answer(sealed, call, 1);
                    DUE.replica("next round", sealed.then(call).play(), 0, i, 0, r + 1, 0, -1, -1, -1, -1);
                } else {
                    DUE.refused(sealed, call, 0);
                    DUE.refused(sealed.then("submit(0, -1, 50)"), call, 0);
                }
            }
        }
    }

    private static void thenItActs() {
        DUE.sentence("Then it acts: true.");
        // It leads the next round, and proposes there.
        ShardLedger x = oneSeal(0).then("deliver(0, 4, 1)", "deliver(0, 6, 1)", "tick(0, 1)").play();
        DUE.message("proposal", x, 0, 7, 0, 1, 0, 1, 0, -1);
        DUE.message("vote", x, 0, 8, 1, 1, 0, 1, 0, -1);
        DUE.replica("step 1", x, 0, 1, 0, 1, 1, -1, -1, -1, -1);
        // Its own vote for none is the third.
        ShardLedger y = Scene.of(0, "tick(0, 1)", "tick(0, 2)", "deliver(0, 0, 3)", "deliver(0, 1, 3)", "tick(0, 3)").play();
        DUE.replica("step 2", y, 0, 3, 0, 0, 2, -1, -1, -1, -1);
        DUE.is("messages(0)", y.messages(0), 4);
    }

    private static void noSuchShard() {
        DUE.sentence("when there is no such shard");
        for (Scene scene : Scenes.all()) {
            DUE.refusedFor(scene, 0, "tick($, 0)", -1, 2, MIN, MAX);
        }
        DUE.answer(Scenes.NEW, "tick(0, 0)", 1);
        DUE.answer(Scenes.NEW, "tick(1, 0)", 1);
    }

    private static void noSuchReplica() {
        DUE.sentence("when there is no such .. replica");
        for (Scene scene : Scenes.all()) {
            DUE.refusedFor(scene, 0, "tick(0, $)", -1, 4, MIN, MAX);
            DUE.refusedFor(scene, 0, "tick(1, $)", -1, 4, MIN, MAX);
        }
        DUE.refused(Scenes.BUSY, "tick(MIN, MAX)", 0);
        DUE.answer(Scenes.NEW, "tick(0, 3)", 1);
        DUE.answer(Scenes.NEW, "tick(1, 3)", 1);
    }

    private static void faultyOrAsleep() {
        DUE.sentence("or it is faulty or asleep");
        for (int liars = 0; liars < 4; liars++) {
            Scene scene = Scene.of(liars, "submit(0, 1, 50)", "sleep(0, 2, true)", "sleep(1, 1, true)");
            for (int s = 0; s < 2; s++) {
                String faulty = "tick(" + s + ", 3)";
                if ((liars >> s & 1) == 1) {
                    DUE.refused(scene, faulty, 0);
                } else {
                    DUE.answer(scene, faulty, 1);
                }
                String asleep = s + ", " + (2 - s);
                DUE.refused(scene, "tick(" + asleep + ")", 0);
                DUE.answer(scene.then("sleep(" + asleep + ", false)"), "tick(" + asleep + ")", 1);
            }
        }
    }
}
