/** States in which refused calls are tried. */
final class Scenes {
    static final Scene NEW = Scene.of(0);

    /** Nobody has done anything, and both replicas 3 are faulty. */
    static final Scene NEW_WITH_LIARS = Scene.of(3);

    /**
     * Replica 3 of shard 0 is faulty. There, 0 has executed request 0 and voted at height 1, where 1 leads: 7 messages
     * of height 0, and message 7 of height 1. 1 and 2 have locked and sealed request 0. In shard 1 there are a proposal
     * and a vote, and replica 2 sleeps.
     */
    static final Scene BUSY = Scene.of(1, "submit(0, 1, 50)", "deliver(0, 0, 1)", "deliver(0, 0, 2)", "deliver(0, 1, 2)",
        "deliver(0, 2, 2)", "deliver(0, 2, 0)", "deliver(0, 3, 0)", "deliver(0, 1, 1)", "deliver(0, 3, 1)",
        "deliver(0, 4, 0)", "deliver(0, 6, 0)", "tick(0, 0)", "lie(0, 1, 0, -1, 1)", "sleep(1, 2, true)",
        "submit(2, 3, 10)");

    /** Eight transactions, of which two are done and two more under way. */
    static final Scene FULL = Scene.of(2, "submit(0, 1, 50)", "submit(0, 3, 50)", "flood(0)", "flood(1)", "client()",
        "flood(0)", "flood(1)", "client()", "submit(4, 5, 60)", "submit(2, -1, 10)", "flood(0)", "flood(1)", "client()",
        "submit(0, -1, 0)", "submit(1, -1, 0)", "submit(2, 3, 100)", "submit(6, 7, 100)", "tick(1, 0)");

    private Scenes() { }

    static Scene[] all() {
        return new Scene[] {NEW, NEW_WITH_LIARS, BUSY, FULL};
    }
}
