/** The boundaries of promise 8. */
public final class LieEdgesTest {
    private static final Due DUE = new Due("LieEdgesTest");
    private static final int MIN = Integer.MIN_VALUE;
    private static final int MAX = Integer.MAX_VALUE;

    /** Replica 3 of shard 1 is faulty, replica 2 there sleeps; requests 0 of shard 0 and 1 of shard 1. */
    private static final Scene SCENE = Scene.of(2, "submit(0, 1, 50)", "sleep(1, 2, true)");

    public static void main(String[] args) {
        notFaulty();
        noSuchShard();
        toNobody();
        toOneAsleep();
        noSuchKind();
        noSuchRound();
        noSuchRequest();
        noRequestInAProposal();
        suchALieAgain();
        anotherKindHeightOrRound();
        everyLieAtEveryHeight();
        withTheHearersHeight();
        withoutACandidate();
        takesAndActs();
        notAmongTheMessages();
        DUE.end();
    }

    private static void notFaulty() {
        DUE.sentence("False when replica 3 is not faulty");
        for (int liars = 0; liars < 4; liars++) {
            Scene scene = Scene.of(liars, "submit(0, 1, 50)");
            for (int s = 0; s < 2; s++) {
                for (int kind = 0; kind < 3; kind++) {
                    String call = "lie(" + s + ", " + kind + ", 0, " + s + ", 0)";
                    if ((liars >> s & 1) == 0) {
                        DUE.refused(scene, call, 0);
                    } else {
                        DUE.answer(scene, call, 1);
                    }
                }
            }
        }
    }

    private static void noSuchShard() {
        DUE.sentence("A call whose shard .. is not there is refused");
        DUE.refusedFor(Scenes.NEW_WITH_LIARS, 0, "lie($, 1, 0, -1, 0)", -1, 2, MIN, MAX);
        DUE.refusedFor(SCENE, 0, "lie($, 1, 0, 0, 0)", -1, 2, 3, MIN, MAX);
        DUE.answer(Scenes.NEW_WITH_LIARS, "lie(0, 1, 0, -1, 0)", 1);
        DUE.answer(Scenes.NEW_WITH_LIARS, "lie(1, 1, 0, -1, 0)", 1);
    }

    private static void toNobody() {
        DUE.sentence("to is not 0 .. 2");
        for (int kind = 0; kind < 3; kind++) {
            DUE.answer(SCENE, "lie(1, " + kind + ", 0, 1, 0)", 1);
            DUE.answer(SCENE, "lie(1, " + kind + ", 0, 1, 1)", 1);
            DUE.answer(SCENE.then("sleep(1, 2, false)"), "lie(1, " + kind + ", 0, 1, 2)", 1);
            DUE.refusedFor(SCENE, 0, "lie(1, " + kind + ", 0, 1, $)", -1, 3, 4, MIN, MAX);
        }
    }

    private static void toOneAsleep() {
        DUE.sentence("or is asleep");
        for (int kind = 0; kind < 3; kind++) {
            DUE.refused(SCENE, "lie(1, " + kind + ", 0, 1, 2)", 0);
            DUE.answer(SCENE.then("sleep(1, 2, false)"), "lie(1, " + kind + ", 0, 1, 2)", 1);
        }
    }

    private static void noSuchKind() {
        DUE.sentence("kind is not 0 .. 2");
        for (int kind = 0; kind < 3; kind++) {
            DUE.answer(SCENE, "lie(1, " + kind + ", 0, 0, 0)", 1);
        }
        DUE.refusedFor(SCENE, 0, "lie(1, $, 0, 1, 0)", -1, 3, 4, MIN, MAX);
        DUE.refusedFor(SCENE, 0, "lie(1, $, 0, -1, 0)", -1, 0, 3, 4, MIN, MAX);
    }

    private static void noSuchRound() {
        DUE.sentence("round not 0 .. 5");
        for (int kind = 0; kind < 3; kind++) {
            for (int r = 0; r < 6; r++) {
                DUE.answer(SCENE, "lie(1, " + kind + ", " + r + ", 1, 0)", 1);
            }
            DUE.refusedFor(SCENE, 0, "lie(1, " + kind + ", $, 1, 0)", -1, 6, 7, MIN, MAX);
        }
    }

    private static void noSuchRequest() {
        DUE.sentence("there is no such request");
        for (int kind = 0; kind < 3; kind++) {
            DUE.refusedFor(Scenes.NEW_WITH_LIARS, 0, "lie(0, " + kind + ", 0, $, 0)", -2, 0, 1, MIN, MAX);
            // A request of the other shard is one, too.
            DUE.answer(SCENE, "lie(1, " + kind + ", 0, 0, 0)", 1);
            DUE.answer(SCENE, "lie(1, " + kind + ", 0, 1, 0)", 1);
            DUE.refusedFor(SCENE, 0, "lie(1, " + kind + ", 0, $, 0)", -2, 2, 3, 32, MIN, MAX);
        }
        int last = Scenes.FULL.play().requests() - 1;
        DUE.answer(Scenes.FULL, "lie(1, 1, 0, " + last + ", 0)", 1);
        DUE.refusedFor(Scenes.FULL, 0, "lie(1, 1, 0, $, 0)", last + 1, -2);
    }

    private static void noRequestInAProposal() {
        DUE.sentence("(or it is -1 and a proposal)");
        for (int r = 0; r < 6; r++) {
            DUE.refused(SCENE, "lie(1, 0, " + r + ", -1, 0)", 0);
            DUE.answer(SCENE, "lie(1, 1, " + r + ", -1, 0)", 1);
            DUE.answer(SCENE, "lie(1, 2, " + r + ", -1, 0)", 1);
        }
        DUE.answer(Scenes.NEW_WITH_LIARS, "lie(0, 1, 0, -1, 0)", 1);
        DUE.answer(Scenes.NEW_WITH_LIARS, "lie(0, 2, 0, -1, 0)", 1);
        DUE.refused(Scenes.NEW_WITH_LIARS, "lie(0, 0, 0, -1, 0)", 0);
    }

    private static void suchALieAgain() {
        DUE.sentence("or to has taken such a lie of that kind, height and round");
        for (int kind = 0; kind < 3; kind++) {
            for (int r = 0; r < 6; r += 5) {
                Scene told = SCENE.then("lie(1, " + kind + ", " + r + ", 1, 0)");
                DUE.refused(told, "lie(1, " + kind + ", " + r + ", 1, 0)", 0);
                DUE.refused(told, "lie(1, " + kind + ", " + r + ", 0, 0)", 0);
                DUE.refused(told, "lie(1, " + kind + ", " + r + ", -1, 0)", 0);
                // A nap does not make it forget.
                DUE.refused(told.then("sleep(1, 0, true)", "sleep(1, 0, false)"), "lie(1, " + kind + ", " + r + ", 1, 0)", 0);
            }
        }
        for (int kind = 1; kind < 3; kind++) {
            Scene none = SCENE.then("lie(1, " + kind + ", 0, -1, 0)");
            DUE.refused(none, "lie(1, " + kind + ", 0, -1, 0)", 0);
            DUE.refused(none, "lie(1, " + kind + ", 0, 1, 0)", 0);
        }
        // A lie that was refused was not taken.
        Scene refused = SCENE.then("lie(1, 1, 0, 1, 2)", "lie(1, 1, 0, 2, 0)", "sleep(1, 2, false)");
        DUE.answer(refused, "lie(1, 1, 0, 1, 2)", 1);
        DUE.answer(refused, "lie(1, 1, 0, 1, 0)", 1);
    }

    private static void anotherKindHeightOrRound() {
        DUE.sentence("such a lie of that kind, height and round");
        for (int kind = 0; kind < 3; kind++) {
            Scene told = SCENE.then("lie(1, " + kind + ", 4, 0, 0)");
            DUE.answer(told, "lie(1, " + (kind + 1) % 3 + ", 4, 0, 0)", 1);
            DUE.answer(told, "lie(1, " + (kind + 2) % 3 + ", 4, 0, 0)", 1);
            DUE.answer(told, "lie(1, " + kind + ", 3, 0, 0)", 1);
            DUE.answer(told, "lie(1, " + kind + ", 5, 0, 0)", 1);
            DUE.answer(told, "lie(1, " + kind + ", 4, 0, 1)", 1);
        }
        // After a round has passed, the lies of that round are still there; at the next height they are not.
        Scene first = Scene.of(1, "submit(0, -1, 50)", "lie(0, 1, 0, -1, 0)");
        Scene next = first.then("flood(0)");
        DUE.answer(next, "replica(0, 0, 0)", 1);
        DUE.answer(next, "lie(0, 1, 0, -1, 0)", 1);
        DUE.refused(next.then("lie(0, 1, 0, -1, 0)"), "lie(0, 1, 0, -1, 0)", 0);
        Scene round1 = Scene.of(1, "lie(0, 1, 0, -1, 0)").toRound(0, 2, 1);
        DUE.answer(round1, "replica(0, 0, 1)", 1);
        DUE.refused(round1, "lie(0, 1, 0, -1, 0)", 0);
        DUE.answer(round1, "lie(0, 1, 1, -1, 0)", 1);
    }

    /** As many lies as one object can be told in its calls: all that there are, at seven heights. */
    private static void everyLieAtEveryHeight() {
        DUE.sentence("such a lie of that kind, height and round");
        ShardLedger x = new ShardLedger(1);
        for (int h = 0; h < 7; h++) {
            x.submit(0, -1, 50);
            for (int n = 0; n < 54; n++) {
                int kind = n / 18;
                // At height 3 the liar leads round 0, and proposes there what is to be executed.
                DUE.yes("lie " + n + " at height " + h, x.lie(0, kind, n / 3 % 6, kind == 0 ? h : -1, n % 3));
            }
            x.flood(0);
        }
        for (int i = 0; i < 4; i++) {
            DUE.is("height", x.replica(0, i, 0), i < 3 ? 7 : 0);
        }
    }

    private static void withTheHearersHeight() {
        DUE.sentence("which takes a message of its, of that kind, with its own height, that round and request");
        // Two honest votes for none at height 1, and the liar's as the third.
        Scene two = Scene.of(1, "submit(0, -1, 50)", "flood(0)", "tick(0, 0)", "tick(0, 1)", "deliver(0, 8, 0)");
        DUE.answer(two, "message(0, 8, 2)", 1);
        DUE.answer(two, "replica(0, 0, 0)", 1);
        DUE.answer(two, "replica(0, 0, 2)", 1);
        DUE.answer(two.then("lie(0, 1, 0, -1, 0)"), "replica(0, 0, 2)", 2);
        // A lie of height 0 does not count at height 1.
        Scene early = Scene.of(1, "submit(0, -1, 50)", "lie(0, 1, 0, -1, 0)", "flood(0)", "tick(0, 0)", "tick(0, 1)",
            "deliver(0, 8, 0)");
        DUE.answer(early, "replica(0, 0, 2)", 1);
        DUE.refused(early, "tick(0, 0)", 0);
        DUE.answer(early.then("lie(0, 1, 0, -1, 0)"), "replica(0, 0, 2)", 2);
    }

    private static void withoutACandidate() {
        DUE.sentence("(-1 for none; in a proposal the candidate's round is -1)");
        // The liar leads round 3; its proposal needs no votes of an earlier round, and gets one.
        Scene scene = Scene.of(1).toRound(0, 2, 3).then("submit(0, -1, 50)");
        ShardLedger x = scene.then("lie(0, 0, 3, 0, 2)").play();
        DUE.message("the vote", x, 0, 18, 1, 2, 0, 3, 0, -1);
        DUE.replica("step 1", x, 0, 2, 0, 3, 1, -1, -1, -1, -1);
        // A replica that is locked on another request does not vote for it.
        Scene locked = scene.then("submit(2, -1, 50)", "lie(0, 0, 3, 1, 0)", "lie(0, 0, 3, 1, 1)", "deliver(0, 18, 1)",
            "lie(0, 1, 3, 1, 1)");
        DUE.replica("the lock", locked.play(), 0, 1, 0, 3, 2, 1, 3, 1, 3);
    }

    private static void takesAndActs() {
        DUE.sentence("and acts: true");
        Scene two = Scene.of(1, "submit(0, -1, 50)", "deliver(0, 0, 1)", "deliver(0, 2, 0)");
        ShardLedger x = two.then("lie(0, 1, 0, 0, 0)").play();
        DUE.message("its seal", x, 0, 3, 2, 0, 0, 0, 0, -1);
        DUE.replica("its lock", x, 0, 0, 0, 0, 2, 0, 0, 0, 0);
        DUE.replica("another takes nothing", x, 0, 1, 0, 0, 1, -1, -1, -1, -1);
        DUE.is("another has not taken it", x.lie(0, 1, 0, 0, 1) ? 1 : 0, 1);
    }

    private static void notAmongTheMessages() {
        DUE.sentence("(It is not among the messages of the shard.)");
        for (int kind = 0; kind < 3; kind++) {
            Scene told = SCENE.then("lie(1, " + kind + ", 5, 0, 0)", "lie(1, " + kind + ", 5, 0, 1)");
            DUE.answer(told, "messages(0)", 2);
            DUE.answer(told, "messages(1)", 2);
            DUE.answer(told, "message(1, 2, 0)", -2);
            DUE.answer(told.then("sleep(1, 2, false)"), "flood(1)", 14);
            DUE.answer(told.then("sleep(1, 2, false)", "flood(1)"), "messages(1)", 7);
        }
    }
}
