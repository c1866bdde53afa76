/** Counts the answers of a test that are not the ones that are due, and tells the first of them. */
final class Due {
    private static final int TOLD = 30;
    private final String test;
    private int asked;
    private int wrong;

    Due(String test) {
        this.test = test;
    }

    void is(String call, long got, long want) {
        asked++;
        if (got != want) {
            wrong++;
            if (wrong <= TOLD) {
                System.out.println(test + ": " + call + " answered " + got + ", due is " + want);
            }
        }
    }

    void yes(String call, boolean got) {
        is(call, got ? 1 : 0, 1);
    }

    void no(String call, boolean got) {
        is(call, got ? 1 : 0, 0);
    }

    /** Height, round, step, lock and candidate of a replica at once. */
    void replica(String when, ShardLedger x, int shard, int replica, int... want) {
        for (int what = 0; what < want.length; what++) {
            is(when + ": replica(" + shard + ", " + replica + ", " + what + ")", x.replica(shard, replica, what), want[what]);
        }
    }

    /** Kind, sender, height, round, request and candidate's round of a message at once. */
    void message(String when, ShardLedger x, int shard, int k, int... want) {
        for (int what = 0; what < want.length; what++) {
            is(when + ": message(" + shard + ", " + k + ", " + what + ")", x.message(shard, k, what), want[what]);
        }
    }

    void end() {
        System.out.println(test + ": " + asked + " answers looked at, " + wrong + " not as due");
        if (wrong != 0) {
            System.exit(1);
        }
    }
}
