import java.lang.management.ManagementFactory;

/** The longest way that a ledger can go, and the room that it takes. */
public final class LimitsTest {
    private static final Due DUE = new Due("LimitsTest");
    private static final long BYTES = 400000;

    public static void main(String[] args) {
        everyRequest();
        everyMessage();
        room();
        DUE.end();
    }

    private static ShardLedger eight() {
        ShardLedger x = new ShardLedger(0);
        for (int t = 0; t < 8; t++) {
            DUE.is("submit", x.submit(2 * t, 2 * t + 1, 100), t);
        }
        return x;
    }

    /** Transactions that hang on one another, each with both shards: one after the other is committed or aborted. */
    private static void everyRequest() {
        ShardLedger x = eight();
        int made = 16;
        for (int n = 0; n < 3; n++) {
            x.flood(0);
            x.flood(1);
            made += x.client();
        }
        DUE.is("requests made", made, 32);
        DUE.is("requests()", x.requests(), 32);
        for (int t = 0; t < 8; t++) {
            DUE.is("transaction(" + t + ")", x.transaction(t), t < 2 ? 3 : 4);
        }
        for (int i = 0; i < 4; i++) {
            DUE.is("height", x.replica(0, i, 0), 16);
            DUE.is("the last request", x.executed(1, i, 15), 31);
            DUE.is("after it", x.executed(1, i, 16), -1);
            DUE.is("value", x.value(0, i) + x.value(1, i), 400);
        }
    }

    /** At each height rounds 0 to 5, with all the messages that can be sent in them; at the last no proposals. */
    private static void everyMessage() {
        ShardLedger x = eight();
        for (int h = 0; h < 17; h++) {
            for (int r = 0; r < 5; r++) {
                failRound(x, h, r);
            }
            if (h == 16) {
                failRound(x, h, 5);
            }
            floodHeight(x, h);
            if (h == 7) {
                x.flood(1);
                DUE.is("client", x.client(), 16);
            }
        }
        DUE.replica("the end", x, 0, 0, 16, 5, 2, -1, -1, -1, -1);
        DUE.no("no round after 5", x.tick(0, 0));
        DUE.is("messages(0)", x.messages(0), 16 * 6 * 9 + 6 * 8);
        DUE.is("after the last message", x.message(0, x.messages(0), 0), -2);
    }

    /** Nobody but the leader votes for its proposal, so that none is sealed. */
    private static void failRound(ShardLedger x, int h, int r) {
        for (int i = 0; i < 4; i++) {
            if (x.replica(0, i, 2) == 0) {
                x.tick(0, i);
            }
        }
        floodHeight(x, h);
        for (int i = 0; i < 4; i++) {
            DUE.replica("round fails", x, 0, i, h, r, 2);
        }
        for (int i = 0; i < 4; i++) {
            x.tick(0, i);
        }
    }

    /** A flood of one height alone, so that the next one begins with round 0 and nothing delivered. */
    private static void floodHeight(ShardLedger x, int h) {
        boolean again = true;
        while (again) {
            again = false;
            for (int k = 0; k < x.messages(0); k++) {
                for (int i = 0; i < 4 && x.message(0, k, 2) == h; i++) {
                    again |= x.deliver(0, k, i);
                }
            }
        }
    }

    /** A run of 512 calls, among them the dearest ones, makes few objects. */
    private static void room() {
        com.sun.management.ThreadMXBean threads = (com.sun.management.ThreadMXBean) ManagementFactory.getThreadMXBean();
        long own = Thread.currentThread().getId();
        long before = threads.getThreadAllocatedBytes(own);
        ShardLedger x = new ShardLedger(3);
        for (int n = 0; n < 512; n++) {
            switch (n % 8) {
                case 0 -> x.submit(n / 8 % 4, 1, 30);
                case 1 -> x.flood(0);
                case 2 -> x.flood(1);
                case 3 -> x.client();
                case 4 -> x.tick(n / 8 % 2, n / 16 % 3);
                case 5 -> x.lie(n / 8 % 2, n / 16 % 3, n / 48 % 6, 0, n % 3);
                case 6 -> x.value(0, 0);
                default -> x.replica(1, 2, 3);
            }
        }
        long used = threads.getThreadAllocatedBytes(own) - before;
        DUE.yes("a run takes " + used + " bytes", used < BYTES);
    }
}
