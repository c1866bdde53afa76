/** The boundaries of promise 7. */
public final class SleepEdgesTest {
    private static final Due DUE = new Due("SleepEdgesTest");
    private static final int MIN = Integer.MIN_VALUE;
    private static final int MAX = Integer.MAX_VALUE;

    public static void main(String[] args) {
        fallsAsleep();
        wakesAndActs();
        whatItDoesAlready();
        faulty();
        noSuchShard();
        noSuchReplica();
        DUE.end();
    }

    private static void fallsAsleep() {
        DUE.sentence("A replica falls asleep");
        for (int n = 0; n < 8; n++) {
            String who = n / 4 + ", " + n % 4;
            Scene scene = Scene.of(0, "submit(0, 1, 50)", "sleep(" + who + ", true)");
            DUE.answer(Scene.of(0, "submit(0, 1, 50)"), "sleep(" + who + ", true)", 1);
            DUE.refused(scene, "tick(" + who + ")", 0);
            DUE.refused(scene, "deliver(" + n / 4 + ", 1, " + n % 4 + ")", 0);
            // Nobody else sleeps.
            for (int m = 0; m < 8; m++) {
                DUE.answer(scene, "sleep(" + m / 4 + ", " + m % 4 + ", true)", m == n ? 0 : 1);
            }
        }
    }

    private static void wakesAndActs() {
        DUE.sentence("or wakes and acts: true");
        for (int s = 0; s < 2; s++) {
            Scene asleep = Scene.of(0, "sleep(" + s + ", 0, true)", "submit(" + s + ", -1, 50)");
            DUE.answer(asleep, "messages(" + s + ")", 0);
            DUE.answer(asleep, "sleep(" + s + ", 0, false)", 1);
            ShardLedger x = asleep.then("sleep(" + s + ", 0, false)").play();
            DUE.message("it proposes", x, s, 0, 0, 0, 0, 0, 0, -1);
            DUE.message("and votes", x, s, 1, 1, 0, 0, 0, 0, -1);
            DUE.is("messages", x.messages(s), 2);
        }
        // One that wakes with nothing to do does nothing.
        Scene idle = Scene.of(0, "sleep(0, 1, true)", "submit(0, -1, 50)");
        DUE.answer(idle.then("sleep(0, 1, false)"), "messages(0)", 2);
        DUE.answer(idle, "sleep(0, 1, false)", 1);
    }

    private static void whatItDoesAlready() {
        DUE.sentence("False when that is what it does already");
        for (int n = 0; n < 8; n++) {
            String who = n / 4 + ", " + n % 4;
            Scene awake = Scene.of(0, "submit(0, 1, 50)");
            DUE.refused(awake, "sleep(" + who + ", false)", 0);
            Scene asleep = awake.then("sleep(" + who + ", true)");
            DUE.refused(asleep, "sleep(" + who + ", true)", 0);
            Scene woken = asleep.then("sleep(" + who + ", false)");
            DUE.refused(woken, "sleep(" + who + ", false)", 0);
            DUE.answer(woken, "sleep(" + who + ", true)", 1);
        }
        DUE.refused(Scenes.BUSY, "sleep(1, 2, true)", 0);
        DUE.refused(Scenes.BUSY, "sleep(0, 1, false)", 0);
    }

    private static void faulty() {
        DUE.sentence("it is faulty");
        for (int liars = 0; liars < 4; liars++) {
            Scene scene = Scene.of(liars, "submit(0, 1, 50)");
            for (int s = 0; s < 2; s++) {
                String on = "sleep(" + s + ", 3, true)";
                if ((liars >> s & 1) == 1) {
                    DUE.refused(scene, on, 0);
                    DUE.refused(scene, "sleep(" + s + ", 3, false)", 0);
                    DUE.refused(scene.then(on), "sleep(" + s + ", 3, false)", 0);
                } else {
                    DUE.answer(scene, on, 1);
                    DUE.answer(scene.then(on), "sleep(" + s + ", 3, false)", 1);
                }
            }
        }
    }

    private static void noSuchShard() {
        DUE.sentence("or there is no such shard");
        for (Scene scene : Scenes.all()) {
            DUE.refusedFor(scene, 0, "sleep($, 0, true)", -1, 2, MIN, MAX);
            DUE.refusedFor(scene, 0, "sleep($, 0, false)", -1, 2, MIN, MAX);
        }
        DUE.answer(Scenes.NEW, "sleep(0, 0, true)", 1);
        DUE.answer(Scenes.NEW, "sleep(1, 0, true)", 1);
    }

    private static void noSuchReplica() {
        DUE.sentence("or there is no such .. replica");
        for (Scene scene : Scenes.all()) {
            for (int s = 0; s < 2; s++) {
                DUE.refusedFor(scene, 0, "sleep(" + s + ", $, true)", -1, 4, MIN, MAX);
                DUE.refusedFor(scene, 0, "sleep(" + s + ", $, false)", -1, 4, MIN, MAX);
            }
        }
        DUE.answer(Scenes.NEW, "sleep(0, 3, true)", 1);
        DUE.answer(Scenes.NEW, "sleep(1, 3, true)", 1);
    }
}
