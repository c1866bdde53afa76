/** The boundaries of promise 2. */
public final class SubmitEdgesTest {
    private static final Due DUE = new Due("SubmitEdgesTest");
    private static final int BAD = ShardLedger.BAD;
    private static final int FULL = ShardLedger.FULL;
    private static final int MIN = Integer.MIN_VALUE;
    private static final int MAX = Integer.MAX_VALUE;

    private static final Scene NEW = Scene.of(0);
    /** Outputs 4 of 130 and 5 of 70, and messages under way. */
    private static final Scene ONE = Scene.of(1, "submit(0, 2, 130)", "deliver(0, 0, 1)", "sleep(1, 2, true)");
    /** Outputs 4 of 100 and 5 of nothing. */
    private static final Scene WITH_NOTHING = Scene.of(0, "submit(0, -1, 100)");
    /** Outputs 18 of 130 and 19 of 70. */
    private static final Scene EIGHT = Scene.of(2).times(7, "submit(3, 0, 150)").then("submit(0, 1, 130)", "flood(0)",
        "deliver(1, 0, 1)");

    public static void main(String[] args) {
        firstAlone();
        numbersInOrder();
        locksOfShard0First();
        allReplicasAct();
        inputsAtTheBeginning();
        inputsOfTransactionsThatThereAre();
        bothTheSame();
        amountsOfOneInput();
        amountsOfTwoInputs();
        amountsOfNothing();
        largestAmounts();
        thenFull();
        badBeforeFull();
        DUE.end();
    }

    private static void firstAlone() {
        DUE.sentence("(second -1: first alone)");
        ShardLedger x = NEW.then("submit(3, -1, 100)").play();
        DUE.is("requests()", x.requests(), 1);
        DUE.request("LOCK", x, 0, 1, 0, 0, 0);
        DUE.refused(NEW, "submit(3, -1, 101)", BAD);
        DUE.answer(NEW, "submit(3, 0, 101)", 0);
        DUE.refusedFor(NEW, BAD, "submit(3, $, 100)", -2, -3, MIN);
    }

    private static void numbersInOrder() {
        DUE.sentence("Answers its number");
        Scene scene = NEW;
        for (int t = 0; t < 8; t++) {
            DUE.answer(scene, "submit(0, -1, 50)", t);
            // What is refused takes no number.
            DUE.answer(scene.then("submit(0, 0, 50)", "submit(0, -1, -1)"), "submit(2, 1, 50)", t);
            scene = scene.then("submit(0, -1, 50)");
        }
    }

    private static void locksOfShard0First() {
        DUE.sentence("a LOCK is made for each of its input shards (shard 0 first)");
        int[][] inputs = {{0, -1}, {2, -1}, {1, -1}, {3, -1}, {0, 2}, {2, 0}, {1, 3}, {3, 1}, {0, 1}, {1, 0}, {3, 2}, {2, 3}};
        for (int n = 0; n < inputs.length; n++) {
            ShardLedger x = NEW.then("submit(" + inputs[n][0] + ", " + inputs[n][1] + ", 50)").play();
            String call = "submit(" + inputs[n][0] + ", " + inputs[n][1] + ", 50)";
            boolean both = n >= 8;
            DUE.is("LOCKs of " + call, x.requests(), both ? 2 : 1);
            DUE.request(call, x, 0, both ? 0 : inputs[n][0] % 2, 0, 0, 0);
            DUE.request(call, x, 1, both ? new int[] {1, 0, 0, 0} : new int[] {-2});
        }
    }

    private static void allReplicasAct() {
        DUE.sentence("and then all replicas act, those of shard 0 first, in order");
        // Replica 0 sleeps in round 0, while the others go on to round 2.
        Scene scene = Scene.of(0, "sleep(0, 0, true)");
        for (int r = 0; r < 2; r++) {
            scene = scene.then("tick(0, 1)", "tick(0, 2)", "tick(0, 3)", "flood(0)", "tick(0, 1)", "tick(0, 2)", "tick(0, 3)");
        }
        ShardLedger x = scene.then("sleep(0, 0, false)").play();
        int sent = x.messages(0);
        DUE.replica("leads round 0", x, 0, 0, 0, 0, 0);
        DUE.replica("leads round 2", x, 0, 2, 0, 2, 0);
        DUE.is("submit", x.submit(0, 1, 50), 0);
        DUE.message("first the proposal of 0", x, 0, sent, 0, 0, 0, 0, 0, -1);
        DUE.message("and its vote", x, 0, sent + 1, 1, 0, 0, 0, 0, -1);
        DUE.message("then the proposal of 2", x, 0, sent + 2, 0, 2, 0, 2, 0, -1);
        DUE.message("and its vote", x, 0, sent + 3, 1, 2, 0, 2, 0, -1);
        DUE.is("messages(0)", x.messages(0), sent + 4);
        DUE.message("shard 1", x, 1, 0, 0, 0, 0, 0, 1, -1);
        DUE.is("messages(1)", x.messages(1), 2);
    }

    private static void inputsAtTheBeginning() {
        DUE.sentence("BAD when an input is not one of the outputs at the beginning");
        for (int n = 0; n < 4; n++) {
            DUE.answer(NEW, "submit(" + n + ", -1, 50)", 0);
            DUE.answer(NEW, "submit(" + n + ", " + (n + 1) % 4 + ", 50)", 0);
        }
        DUE.refusedFor(NEW, BAD, "submit($, -1, 0)", -1, -2, 4, 5, 19, 20, MIN, MAX);
        DUE.refusedFor(NEW, BAD, "submit($, 0, 0)", -1, -2, 4, 5, 19, 20, MIN, MAX);
        DUE.refusedFor(NEW, BAD, "submit(0, $, 0)", -2, 4, 5, 19, 20, MIN, MAX);
        DUE.refused(NEW, "submit(MIN, MAX, 0)", BAD);
    }

    private static void inputsOfTransactionsThatThereAre() {
        DUE.sentence("or of a transaction that there is");
        for (int t = 1; t < 8; t++) {
            Scene scene = NEW.times(t, "submit(0, -1, 50)");
            for (int n = 2 + 2 * t; n < 4 + 2 * t; n++) {
                DUE.answer(scene, "submit(" + n + ", -1, 50)", t);
                DUE.answer(scene, "submit(1, " + n + ", 150)", t);
            }
            DUE.refusedFor(scene, BAD, "submit($, -1, 0)", 4 + 2 * t, 5 + 2 * t);
            DUE.refusedFor(scene, BAD, "submit(1, $, 0)", 4 + 2 * t, 5 + 2 * t);
        }
        DUE.refusedFor(ONE, BAD, "submit($, -1, 0)", -1, 6, 7, 19, 20, MIN, MAX);
        DUE.refusedFor(ONE, BAD, "submit(4, $, 0)", -2, 6, 7, 19, 20, MIN, MAX);
    }

    private static void bothTheSame() {
        DUE.sentence("both are the same");
        for (int n = 0; n < 4; n++) {
            DUE.refused(NEW, "submit(" + n + ", " + n + ", 50)", BAD);
            DUE.refused(NEW, "submit(" + n + ", " + n + ", 0)", BAD);
        }
        DUE.refused(ONE, "submit(4, 4, 100)", BAD);
        DUE.refused(ONE, "submit(5, 5, 70)", BAD);
        DUE.answer(ONE, "submit(4, 5, 200)", 1);
        DUE.answer(ONE, "submit(5, 4, 200)", 1);
        DUE.refused(EIGHT, "submit(19, 19, 0)", BAD);
        for (int n : new int[] {-1, -2, 4, MIN, MAX}) {
            DUE.refused(NEW, "submit(" + n + ", " + n + ", 0)", BAD);
        }
    }

    private static void amountsOfOneInput() {
        DUE.sentence("or a is not from 0 to the sum of the inputs' amounts");
        for (int a : new int[] {0, 1, 99, 100}) {
            DUE.answer(NEW, "submit(1, -1, " + a + ")", 0);
        }
        DUE.refusedFor(NEW, BAD, "submit(1, -1, $)", -1, -100, 101, 200, MIN, MIN + 100, MAX, MAX - 100);
        DUE.answer(ONE, "submit(4, -1, 130)", 1);
        DUE.refusedFor(ONE, BAD, "submit(4, -1, $)", -1, 131, 200, MIN, MAX);
        DUE.answer(ONE, "submit(5, -1, 70)", 1);
        DUE.refusedFor(ONE, BAD, "submit(5, -1, $)", -1, 71, 130, MIN, MAX);
    }

    private static void amountsOfTwoInputs() {
        DUE.sentence("or a is not from 0 to the sum of the inputs' amounts");
        for (int a : new int[] {0, 100, 101, 199, 200}) {
            DUE.answer(NEW, "submit(3, 2, " + a + ")", 0);
            DUE.answer(NEW, "submit(1, 3, " + a + ")", 0);
        }
        DUE.refusedFor(NEW, BAD, "submit(3, 2, $)", -1, 201, MIN, MIN + 200, MAX, MAX - 200);
        DUE.refusedFor(NEW, BAD, "submit(1, 3, $)", -1, 201, MIN, MAX);
        DUE.answer(ONE, "submit(4, 0, 230)", 1);
        DUE.refusedFor(ONE, BAD, "submit(4, 0, $)", -1, 231, MIN, MAX);
        DUE.answer(ONE, "submit(1, 5, 170)", 1);
        DUE.refusedFor(ONE, BAD, "submit(1, 5, $)", -1, 171, MIN, MAX);
    }

    private static void amountsOfNothing() {
        DUE.sentence("or a is not from 0 to the sum of the inputs' amounts");
        DUE.answer(WITH_NOTHING, "submit(5, -1, 0)", 1);
        DUE.refusedFor(WITH_NOTHING, BAD, "submit(5, -1, $)", -1, 1, MIN, MAX);
        DUE.answer(WITH_NOTHING, "submit(5, 4, 100)", 1);
        DUE.refusedFor(WITH_NOTHING, BAD, "submit(5, 4, $)", -1, 101, MIN, MAX);
    }

    /** Every transaction takes the two largest outputs, for submit does not ask whether they are spent already. */
    private static void largestAmounts() {
        DUE.sentence("or a is not from 0 to the sum of the inputs' amounts");
        Scene scene = NEW;
        int large = 100;
        int larger = 100;
        String inputs = "1, 0";
        for (int t = 0; t < 8; t++) {
            int sum = large + larger;
            DUE.answer(scene, "submit(" + inputs + ", " + sum + ")", t);
            DUE.refused(scene, "submit(" + inputs + ", " + (sum + 1) + ")", BAD);
            scene = scene.then("submit(" + inputs + ", " + sum + ")");
            inputs = (t == 0 ? 0 : 2 + 2 * t) + ", " + (4 + 2 * t);
            large = larger;
            larger = sum;
        }
        DUE.is("the largest amount", larger, 5500);
        DUE.refused(scene, "submit(18, 16, 8900)", FULL);
        DUE.refused(scene, "submit(18, 16, 8901)", BAD);
    }

    private static void thenFull() {
        DUE.sentence("then FULL");
        Scene seven = NEW.times(7, "submit(3, 0, 150)");
        DUE.answer(seven, "submit(0, 1, 130)", 7);
        DUE.refused(EIGHT, "submit(0, 1, 130)", FULL);
        DUE.refused(EIGHT, "submit(0, -1, 0)", FULL);
        DUE.refused(EIGHT, "submit(0, -1, 100)", FULL);
        DUE.refused(EIGHT, "submit(18, -1, 130)", FULL);
        DUE.refused(EIGHT, "submit(19, -1, 70)", FULL);
        DUE.refused(EIGHT, "submit(18, 19, 200)", FULL);
        DUE.refused(EIGHT.then("submit(0, -1, 0)", "client()"), "submit(0, -1, 0)", FULL);
    }

    private static void badBeforeFull() {
        DUE.sentence("BAD when .. ; then FULL");
        DUE.refusedFor(EIGHT, BAD, "submit($, -1, 0)", -1, -2, 20, 21, MIN, MAX);
        DUE.refusedFor(EIGHT, BAD, "submit(0, $, 0)", -2, 0, 20, 21, MIN, MAX);
        DUE.refusedFor(EIGHT, BAD, "submit(0, -1, $)", -1, 101, MIN, MAX);
        DUE.refusedFor(EIGHT, BAD, "submit(18, -1, $)", -1, 131, MIN, MAX);
        DUE.refusedFor(EIGHT, BAD, "submit(18, 19, $)", -1, 201, MIN, MAX);
    }
}
