import java.lang.management.ManagementFactory;

/** The longest way that a ledger can go, and the room that it takes. */
public final class LimitsTest {
    private static final Due DUE = new Due("LimitsTest");
    // The room of a run: 7.3 million fields and elements, of four bytes at least.
    private static final long BYTES = 4L * 7300000;

    public static void main(String[] args) {
        everyRequest();
        everyMessage();
        room();
        DUE.end();
    }

    private static ShardLedger eight() {
        ShardLedger x = new ShardLedger(0);
        for (int t = 0; t < 8; t++) {
            DUE.is("submit", x.submit(2 * t, 2 * t + 1, 100), t);
        }
        return x;
    }

    /** Transactions that hang on one another, each with both shards: one after the other is committed or aborted. */
    private static void everyRequest() {
        ShardLedger x = eight();
        int made = 16;
        for (int n = 0; n < 3; n++) {
            x.flood(0);
            x.flood(1);
            made += x.client();
        }
        DUE.is("requests made", made, 32);
        DUE.is("requests()", x.requests(), 32);
        for (int t = 0; t < 8; t++) {
            DUE.is("transaction(" + t + ")", x.transaction(t), t < 2 ? 3 : 4);
        }
        for (int i = 0; i < 4; i++) {
            DUE.is("height", x.replica(0, i, 0), 16);
            DUE.is("the last request", x.executed(1, i, 15), 31);
            DUE.is("after it", x.executed(1, i, 16), -1);
            DUE.is("value", x.value(0, i) + x.value(1, i), 400);
        }
    }

    /**
     * At each height rounds 0 to 5, with all the messages that can be sent in them. That is far more than 512 calls, so
     * that no answer is looked at: but every call ends, and none throws.
     */
    private static void everyMessage() {
        ShardLedger x = eight();
        for (int h = 0; h < 17; h++) {
            for (int r = 0; r < (h < 16 ? 5 : 6); r++) {
                tickAll(x);
                deliverAll(x);
                tickAll(x);
            }
            deliverAll(x);
            if (h == 7) {
                x.flood(1);
                x.client();
            }
        }
        DUE.yes("all calls ended", true);
    }

    private static void tickAll(ShardLedger x) {
        for (int i = 0; i < 4; i++) {
            x.tick(0, i);
        }
    }

    /** No message of a height above the lowest one, so that nobody goes on before its rounds have failed. */
    private static void deliverAll(ShardLedger x) {
        int h = Math.min(Math.min(x.replica(0, 0, 0), x.replica(0, 1, 0)), Math.min(x.replica(0, 2, 0), x.replica(0, 3, 0)));
        for (int pass = 0; pass < 3; pass++) {
            for (int k = 0; k < x.messages(0); k++) {
                for (int i = 0; i < 4 && x.message(0, k, 2) == h; i++) {
                    x.deliver(0, k, i);
                }
            }
        }
    }

    /** A run of 512 calls, among them the dearest ones, makes few objects. */
    private static void room() {
        com.sun.management.ThreadMXBean threads = (com.sun.management.ThreadMXBean) ManagementFactory.getThreadMXBean();
        long own = Thread.currentThread().getId();
        long before = threads.getThreadAllocatedBytes(own);
        ShardLedger x = new ShardLedger(3);
        for (int n = 0; n < 512; n++) {
            switch (n % 8) {
                case 0 -> x.submit(n / 8 % 4, 1, 30);
                case 1 -> x.flood(0);
                case 2 -> x.flood(1);
                case 3 -> x.client();
                case 4 -> x.tick(n / 8 % 2, n / 16 % 3);
                case 5 -> x.lie(n / 8 % 2, n / 16 % 3, n / 48 % 6, 0, n % 3);
                case 6 -> x.value(0, 0);
                default -> x.replica(1, 2, 3);
            }
        }
        long used = threads.getThreadAllocatedBytes(own) - before;
        DUE.yes("a run takes " + used + " bytes", used < BYTES);
    }
}
