/** Promises 9 to 14. */
public final class QuestionsTest {
    private static final Due DUE = new Due("QuestionsTest");
    private static final int[] NOT_A_SHARD = {-1, 2, Integer.MIN_VALUE, Integer.MAX_VALUE};
    private static final int[] NOT_A_REPLICA = {-1, 4, Integer.MIN_VALUE, Integer.MAX_VALUE};

    public static void main(String[] args) {
        ShardLedger x = new ShardLedger(0);
        x.submit(0, 2, 30);
        x.flood(0);
        x.client();
        ordinary(x);
        noSuchShard(x);
        noSuchReplica(x);
        noSuchOther(x);
        ordinary(x);
        DUE.end();
    }

    private static void ordinary(ShardLedger x) {
        DUE.is("messages(0)", x.messages(0), 11);
        DUE.is("messages(1)", x.messages(1), 2);
        DUE.message("first", x, 0, 0, 0, 0, 0, 0, 0, -1);
        DUE.message("last", x, 0, 10, 1, 1, 1, 0, 1, -1);
        DUE.message("of shard 1", x, 1, 1, 1, 0, 0, 0, 2, -1);
        DUE.replica("leader", x, 0, 1, 1, 0, 1, -1, -1, -1, -1);
        DUE.replica("another", x, 0, 2, 1, 0, 0, -1, -1, -1, -1);
        DUE.is("executed(0, 2, 0)", x.executed(0, 2, 0), 0);
        DUE.is("executed(1, 2, 0)", x.executed(1, 2, 0), -1);
        DUE.is("output(0, 2, 0)", x.output(0, 2, 0), 2);
        DUE.is("output(1, 2, 19)", x.output(1, 2, 19), 0);
        DUE.is("output(0, 2, 18)", x.output(0, 2, 18), 0);
        DUE.is("locked outputs count", x.value(0, 0), 200);
        DUE.is("value(1, 3)", x.value(1, 3), 200);
    }

    private static void noSuchShard(ShardLedger x) {
        for (int s : NOT_A_SHARD) {
            DUE.is("messages(" + s + ")", x.messages(s), -1);
            DUE.is("message(" + s + ", 0, 0)", x.message(s, 0, 0), -2);
            DUE.is("replica(" + s + ", 0, 0)", x.replica(s, 0, 0), -2);
            DUE.is("executed(" + s + ", 0, 0)", x.executed(s, 0, 0), -1);
            DUE.is("output(" + s + ", 0, 0)", x.output(s, 0, 0), -1);
            DUE.is("value(" + s + ", 0)", x.value(s, 0), -1);
        }
    }

    private static void noSuchReplica(ShardLedger x) {
        for (int i : NOT_A_REPLICA) {
            DUE.is("replica(0, " + i + ", 0)", x.replica(0, i, 0), -2);
            DUE.is("executed(0, " + i + ", 0)", x.executed(0, i, 0), -1);
            DUE.is("output(0, " + i + ", 0)", x.output(0, i, 0), -1);
            DUE.is("value(0, " + i + ")", x.value(0, i), -1);
        }
    }

    private static void noSuchOther(ShardLedger x) {
        for (int k : new int[] {-1, 11, 918, Integer.MIN_VALUE, Integer.MAX_VALUE}) {
            DUE.is("message(0, " + k + ", 0)", x.message(0, k, 0), -2);
        }
        for (int k : new int[] {-1, 1, 16, 32, Integer.MIN_VALUE, Integer.MAX_VALUE}) {
            DUE.is("executed(0, 0, " + k + ")", x.executed(0, 0, k), -1);
        }
        for (int what : new int[] {-1, 6, Integer.MIN_VALUE, Integer.MAX_VALUE}) {
            DUE.is("message(0, 0, " + what + ")", x.message(0, 0, what), -2);
        }
        for (int what : new int[] {-1, 7, Integer.MIN_VALUE, Integer.MAX_VALUE}) {
            DUE.is("replica(0, 0, " + what + ")", x.replica(0, 0, what), -2);
        }
        for (int n : new int[] {-2, -1, 1, 3, 5, 19, 20, 22, Integer.MIN_VALUE, Integer.MAX_VALUE}) {
            DUE.is("output(0, 0, " + n + ")", x.output(0, 0, n), -1);
        }
        for (int n : new int[] {-1, 0, 2, 18, 20, 21, Integer.MIN_VALUE, Integer.MAX_VALUE}) {
            DUE.is("output(1, 0, " + n + ")", x.output(1, 0, n), -1);
        }
    }
}
