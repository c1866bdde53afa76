/** Promise 2. */
public final class SubmitTest {
    private static final Due DUE = new Due("SubmitTest");

    public static void main(String[] args) {
        refusedInputs();
        locksAndActs();
        outputsOfTransactions();
        amountsOfNothing();
        eightAreAll();
        DUE.end();
    }

    private static void bad(ShardLedger x, int first, int second, int a) {
        DUE.is("submit(" + first + ", " + second + ", " + a + ")", x.submit(first, second, a), ShardLedger.BAD);
    }

    private static void request(ShardLedger x, int q, int shard, int kind, int transaction) {
        DUE.is("request " + q + " shard", x.request(q, 0), shard);
        DUE.is("request " + q + " kind", x.request(q, 1), kind);
        DUE.is("request " + q + " transaction", x.request(q, 2), transaction);
        DUE.is("request " + q + " result", x.request(q, 3), 0);
    }

    private static void refusedInputs() {
        ShardLedger x = new ShardLedger(0);
        bad(x, -1, -1, 0);
        bad(x, -1, 0, 0);
        bad(x, -2, -1, 0);
        bad(x, 4, -1, 0);
        bad(x, 0, 4, 0);
        bad(x, 0, -2, 0);
        bad(x, 0, 0, 10);
        bad(x, 0, -1, -1);
        bad(x, 0, -1, 101);
        bad(x, 0, 1, 201);
        bad(x, 0, 1, Integer.MAX_VALUE);
        bad(x, 0, 1, Integer.MIN_VALUE);
        bad(x, Integer.MAX_VALUE, -1, 0);
        bad(x, Integer.MIN_VALUE, -1, 0);
        bad(x, 0, Integer.MAX_VALUE, 0);
        bad(x, 0, Integer.MIN_VALUE, 0);
        DUE.is("requests()", x.requests(), 0);
        DUE.is("messages(0)", x.messages(0), 0);
        DUE.is("messages(1)", x.messages(1), 0);
        DUE.is("transaction(0)", x.transaction(0), -1);
    }

    private static void locksAndActs() {
        ShardLedger x = new ShardLedger(0);
        DUE.is("submit(0, -1, 100)", x.submit(0, -1, 100), 0);
        DUE.is("requests()", x.requests(), 1);
        request(x, 0, 0, 0, 0);
        DUE.is("messages(0)", x.messages(0), 2);
        DUE.is("messages(1)", x.messages(1), 0);
        DUE.message("its leader proposes", x, 0, 0, 0, 0, 0, 0, 0, -1);
        DUE.message("its leader votes", x, 0, 1, 1, 0, 0, 0, 0, -1);
        DUE.is("submit(3, 2, 200)", x.submit(3, 2, 200), 1);
        DUE.is("requests()", x.requests(), 3);
        request(x, 1, 0, 0, 1);
        request(x, 2, 1, 0, 1);
        DUE.is("messages(0)", x.messages(0), 2);
        DUE.is("messages(1)", x.messages(1), 2);
        DUE.message("shard 1", x, 1, 0, 0, 0, 0, 0, 2, -1);
        DUE.is("submit(1, 3, 0)", x.submit(1, 3, 0), 2);
        DUE.is("one LOCK for two inputs of a shard", x.requests(), 4);
        request(x, 3, 1, 0, 2);
        DUE.is("transaction(2)", x.transaction(2), 0);
        DUE.is("submit(1, 0, 5)", x.submit(1, 0, 5), 3);
        DUE.is("output 0 as second input", x.requests(), 6);
        request(x, 4, 0, 0, 3);
        request(x, 5, 1, 0, 3);
    }

    private static void outputsOfTransactions() {
        ShardLedger x = new ShardLedger(0);
        DUE.is("submit(0, 2, 130)", x.submit(0, 2, 130), 0);
        bad(x, 6, -1, 0);
        bad(x, 4, -1, 131);
        bad(x, 5, -1, 71);
        bad(x, 4, 5, 201);
        bad(x, 5, 5, 0);
        DUE.is("submit(4, -1, 130)", x.submit(4, -1, 130), 1);
        DUE.is("submit(5, -1, 70)", x.submit(5, -1, 70), 2);
        DUE.is("submit(5, 4, 200)", x.submit(5, 4, 200), 3);
        DUE.is("submit(10, 1, 300)", x.submit(10, 1, 300), 4);
        request(x, 3, 0, 0, 3);
        request(x, 4, 1, 0, 3);
    }

    /** An output of amount 0 is an output of a transaction, too, though it is never there to be locked. */
    private static void amountsOfNothing() {
        ShardLedger x = new ShardLedger(0);
        DUE.is("submit(0, -1, 100)", x.submit(0, -1, 100), 0);
        bad(x, 5, -1, 1);
        DUE.is("submit(5, -1, 0)", x.submit(5, -1, 0), 1);
        DUE.is("flood(0)", x.flood(0), 27);
        DUE.is("flood(1)", x.flood(1), 27);
        DUE.is("client()", x.client(), 2);
        DUE.is("LOCK of what is not there", x.request(1, 3), 2);
        request(x, 2, 0, 1, 0);
        request(x, 3, 1, 2, 1);
        x.flood(0);
        x.flood(1);
        DUE.is("output(0, 0, 4)", x.output(0, 0, 4), 1);
        DUE.is("output(1, 0, 5)", x.output(1, 0, 5), 0);
    }

    private static void eightAreAll() {
        ShardLedger x = new ShardLedger(0);
        for (int t = 0; t < 8; t++) {
            DUE.is("submit " + t, x.submit(t % 4, -1, 10 * t), t);
        }
        int requests = x.requests();
        int messages = x.messages(0);
        DUE.is("a ninth", x.submit(0, -1, 0), ShardLedger.FULL);
        DUE.is("a ninth of the last output", x.submit(19, 18, 100), ShardLedger.FULL);
        DUE.is("BAD comes before FULL", x.submit(20, -1, 0), ShardLedger.BAD);
        bad(x, 0, 0, 0);
        bad(x, 0, -1, 101);
        bad(x, 19, 18, 101);
        DUE.is("requests()", x.requests(), requests);
        DUE.is("messages(0)", x.messages(0), messages);
        DUE.is("transaction(8)", x.transaction(8), -1);
    }
}
