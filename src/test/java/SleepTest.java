/** Promise 7. */
public final class SleepTest {
    private static final Due DUE = new Due("SleepTest");

    public static void main(String[] args) {
        sleepsAndWakes();
        doesNothingMeanwhile();
        wrongNumbers();
        DUE.end();
    }

    private static void sleepsAndWakes() {
        ShardLedger x = new ShardLedger(0);
        DUE.no("awake already", x.sleep(0, 0, false));
        DUE.yes("falls asleep", x.sleep(0, 0, true));
        DUE.no("asleep already", x.sleep(0, 0, true));
        x.submit(0, 1, 30);
        DUE.is("the leader sleeps", x.messages(0), 0);
        DUE.is("the other shard's leader does not", x.messages(1), 2);
        DUE.yes("wakes", x.sleep(0, 0, false));
        DUE.is("and acts", x.messages(0), 2);
        DUE.replica("and acts", x, 0, 0, 0, 0, 1, -1, -1, -1, -1);
        DUE.no("awake again", x.sleep(0, 0, false));
    }

    private static void doesNothingMeanwhile() {
        ShardLedger x = new ShardLedger(1);
        x.submit(0, -1, 30);
        x.sleep(0, 2, true);
        DUE.no("deliver", x.deliver(0, 0, 2));
        DUE.no("tick", x.tick(0, 2));
        DUE.no("lie", x.lie(0, 1, 0, 0, 2));
        DUE.is("flood to replicas 0 and 1 alone", x.flood(0), 3);
        DUE.replica("asleep", x, 0, 2, 0, 0, 0, -1, -1, -1, -1);
        DUE.is("output(0, 2, 0)", x.output(0, 2, 0), 1);
        DUE.yes("wakes", x.sleep(0, 2, false));
        DUE.yes("a lie that was refused can be told", x.lie(0, 1, 0, 0, 2));
        DUE.yes("deliver", x.deliver(0, 0, 2));
    }

    private static void wrongNumbers() {
        ShardLedger x = new ShardLedger(2);
        int[][] wrong = {{-1, 0}, {2, 0}, {0, -1}, {0, 4}, {1, 3}, {Integer.MAX_VALUE, 0}, {Integer.MIN_VALUE, 0},
            {0, Integer.MAX_VALUE}, {0, Integer.MIN_VALUE}};
        for (int[] w : wrong) {
            DUE.no("sleep(" + w[0] + ", " + w[1] + ", true)", x.sleep(w[0], w[1], true));
            DUE.no("sleep(" + w[0] + ", " + w[1] + ", false)", x.sleep(w[0], w[1], false));
        }
        DUE.yes("replica 3 where it is not faulty", x.sleep(0, 3, true));
    }
}
