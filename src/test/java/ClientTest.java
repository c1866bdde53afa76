/** Promises 3, 15, 16 and 17, and what a request does where it is executed. */
public final class ClientTest {
    private static final Due DUE = new Due("ClientTest");

    public static void main(String[] args) {
        bothOrNeither();
        twoAnswersCount();
        commitsWhereSomethingIs();
        abortsWhereInputsAre();
        chainOfTransactions();
        allInputsOrNone();
        abortLeavesOthersLocks();
        questionsOfRequests();
        DUE.end();
    }

    private static void floodBoth(ShardLedger x) {
        x.flood(0);
        x.flood(1);
    }

    private static void request(ShardLedger x, int q, int... want) {
        for (int what = 0; what < want.length; what++) {
            DUE.is("request(" + q + ", " + what + ")", x.request(q, what), want[what]);
        }
    }

    private static void states(ShardLedger x, int... want) {
        for (int t = 0; t < want.length; t++) {
            DUE.is("transaction(" + t + ")", x.transaction(t), want[t]);
        }
    }

    private static void outputs(ShardLedger x, int... want) {
        for (int n = 0; n < want.length; n++) {
            for (int i = 0; i < 4; i++) {
                DUE.is("output(" + n % 2 + ", " + i + ", " + n + ")", x.output(n % 2, i, n), want[n]);
            }
        }
    }

    private static void bothOrNeither() {
        ShardLedger x = new ShardLedger(0);
        DUE.is("client of nothing", x.client(), 0);
        x.submit(0, 1, 120);
        x.submit(0, 3, 50);
        DUE.is("client before an answer", x.client(), 0);
        x.flood(0);
        request(x, 0, 0, 0, 0, 1);
        request(x, 1, 1, 0, 0, 0);
        request(x, 2, 0, 0, 1, 2);
        DUE.is("client with half of the answers", x.client(), 0);
        states(x, 0, 0);
        x.flood(1);
        request(x, 1, 1, 0, 0, 1);
        request(x, 3, 1, 0, 1, 1);
        outputs(x, 2, 2, 1, 2, 0, 0);
        DUE.is("client", x.client(), 4);
        states(x, 1, 2);
        request(x, 4, 0, 1, 0, 0);
        request(x, 5, 1, 1, 0, 0);
        request(x, 6, 0, 2, 1, 0);
        request(x, 7, 1, 2, 1, 0);
        DUE.is("client again", x.client(), 0);
        x.flood(0);
        DUE.is("client with shard 0 done", x.client(), 0);
        states(x, 1, 2);
        outputs(x, 3, 2, 1, 2, 1, 0);
        x.flood(1);
        request(x, 5, 1, 1, 0, 1);
        request(x, 7, 1, 2, 1, 1);
        states(x, 1, 2);
        DUE.is("client at the end", x.client(), 0);
        states(x, 3, 4);
        outputs(x, 3, 3, 1, 1, 1, 1);
        DUE.is("value(0, 0)", x.value(0, 0), 220);
        DUE.is("value(1, 0)", x.value(1, 0), 180);
        DUE.is("client after the end", x.client(), 0);
        states(x, 3, 4, -1);
        DUE.is("requests()", x.requests(), 8);
    }

    /** One replica that has executed a request is no answer; a second one is. */
    private static void twoAnswersCount() {
        ShardLedger x = new ShardLedger(0);
        x.submit(0, -1, 100);
        x.deliver(0, 0, 1);
        x.deliver(0, 0, 2);
        x.deliver(0, 2, 0);
        x.deliver(0, 3, 0);
        x.deliver(0, 1, 1);
        x.deliver(0, 3, 1);
        x.deliver(0, 1, 2);
        x.deliver(0, 2, 2);
        x.deliver(0, 5, 0);
        x.deliver(0, 6, 0);
        DUE.replica("executed by one", x, 0, 0, 1, 0, 0, -1, -1, -1, -1);
        request(x, 0, 0, 0, 0, 0);
        DUE.is("client", x.client(), 0);
        x.deliver(0, 4, 1);
        x.deliver(0, 6, 1);
        DUE.replica("executed by two", x, 0, 1, 1, 0, 0, -1, -1, -1, -1);
        request(x, 0, 0, 0, 0, 1);
        int messages = x.messages(0);
        DUE.is("client", x.client(), 1);
        request(x, 1, 0, 1, 0, 0);
        DUE.is("after the client all replicas act", x.messages(0), messages + 2);
        DUE.message("the new leader proposes", x, 0, messages, 0, 1, 1, 0, 1, -1);
    }

    private static void commitsWhereSomethingIs() {
        ShardLedger x = new ShardLedger(0);
        x.submit(0, -1, 100);
        x.submit(2, -1, 0);
        floodBoth(x);
        DUE.is("client", x.client(), 3);
        request(x, 2, 0, 1, 0);
        request(x, 3, 0, 1, 1);
        request(x, 4, 1, 1, 1);
        floodBoth(x);
        x.client();
        states(x, 3, 3);
        outputs(x, 3, 1, 3, 1, 1, 0, 0, 1);
        DUE.is("value(0, 1)", x.value(0, 1), 100);
        DUE.is("value(1, 1)", x.value(1, 1), 300);
    }

    private static void abortsWhereInputsAre() {
        ShardLedger x = new ShardLedger(0);
        x.submit(1, -1, 50);
        x.submit(1, -1, 60);
        floodBoth(x);
        DUE.is("client", x.client(), 3);
        request(x, 2, 0, 1, 0);
        request(x, 3, 1, 1, 0);
        request(x, 4, 1, 2, 1);
        DUE.is("requests()", x.requests(), 5);
        floodBoth(x);
        x.client();
        states(x, 3, 4);
        outputs(x, 1, 3, 1, 1, 1, 1, 0, 0);
    }

    /** An output can be spent only after the COMMIT that makes it. */
    private static void chainOfTransactions() {
        ShardLedger x = new ShardLedger(0);
        x.submit(0, 2, 150);
        x.submit(4, -1, 150);
        floodBoth(x);
        DUE.is("client", x.client(), 3);
        states(x, 1, 2);
        floodBoth(x);
        x.client();
        states(x, 3, 4);
        x.submit(4, 5, 20);
        floodBoth(x);
        DUE.is("client", x.client(), 2);
        floodBoth(x);
        x.client();
        states(x, 3, 4, 3);
        outputs(x, 3, 1, 3, 1, 3, 3, 0, 0, 1, 1);
        DUE.is("value(0, 3)", x.value(0, 3), 20);
        DUE.is("value(1, 3)", x.value(1, 3), 380);
    }

    /** Of two inputs in one shard, of which one is locked already, none is locked. */
    private static void allInputsOrNone() {
        ShardLedger x = new ShardLedger(0);
        x.submit(0, -1, 100);
        x.submit(2, 0, 7);
        x.submit(2, -1, 9);
        x.flood(0);
        request(x, 0, 0, 0, 0, 1);
        request(x, 1, 0, 0, 1, 2);
        request(x, 2, 0, 0, 2, 1);
        DUE.is("client", x.client(), 4);
        x.flood(0);
        outputs(x, 3, 1, 3, 1, 1);
        DUE.is("output 8", x.output(0, 2, 8), 1);
        DUE.is("value", x.value(0, 2), 109);
    }

    /** Transaction 0 still waits for shard 1 when the ABORT of 1 is executed in shard 0. */
    private static void abortLeavesOthersLocks() {
        ShardLedger x = new ShardLedger(0);
        x.submit(0, 1, 30);
        x.submit(0, 2, 30);
        x.flood(0);
        DUE.is("client", x.client(), 1);
        states(x, 0, 2);
        x.flood(0);
        DUE.is("client", x.client(), 0);
        states(x, 0, 4);
        outputs(x, 2, 1, 1, 1);
        x.flood(1);
        DUE.is("client", x.client(), 2);
        states(x, 1, 4);
    }

    private static void questionsOfRequests() {
        ShardLedger x = new ShardLedger(0);
        DUE.is("request(-1, 0)", x.request(-1, 0), -2);
        x.submit(1, -1, 0);
        request(x, 0, 1, 0, 0, 0, -2);
        DUE.is("request(0, -1)", x.request(0, -1), -2);
        DUE.is("request(0, max)", x.request(0, Integer.MAX_VALUE), -2);
        DUE.is("request(1, 0)", x.request(1, 0), -2);
        DUE.is("request(-1, 0)", x.request(-1, 0), -2);
        DUE.is("request(max, 0)", x.request(Integer.MAX_VALUE, 0), -2);
        DUE.is("transaction(-1)", x.transaction(-1), -1);
        DUE.is("transaction(0)", x.transaction(0), 0);
        DUE.is("transaction(1)", x.transaction(1), -1);
        DUE.is("transaction(min)", x.transaction(Integer.MIN_VALUE), -1);
        DUE.is("requests()", x.requests(), 1);
    }
}
