import java.util.List;

/** Counts the answers of a test that are not the ones that are due, and tells the first of them. */
final class Due {
    private static final int TOLD = 30;
    private final String test;
    private String sentence = "";
    private int asked;
    private int wrong;

    Due(String test) {
        this.test = test;
    }

    /** The document's words that the next answers are held against. */
    void sentence(String words) {
        sentence = "[" + words + "] ";
    }

    void is(String call, long got, long want) {
        asked++;
        if (got != want) {
            wrong++;
            if (wrong <= TOLD) {
                System.out.println(test + ": " + sentence + call + " answered " + got + ", due is " + want);
            }
        }
    }

    void yes(String call, boolean got) {
        is(call, got ? 1 : 0, 1);
    }

    void no(String call, boolean got) {
        is(call, got ? 1 : 0, 0);
    }

    /** Height, round, step, lock and candidate of a replica at once. */
    void replica(String when, ShardLedger x, int shard, int replica, int... want) {
        for (int what = 0; what < want.length; what++) {
            is(when + ": replica(" + shard + ", " + replica + ", " + what + ")", x.replica(shard, replica, what), want[what]);
        }
    }

    /** Kind, sender, height, round, request and candidate's round of a message at once. */
    void message(String when, ShardLedger x, int shard, int k, int... want) {
        for (int what = 0; what < want.length; what++) {
            is(when + ": message(" + shard + ", " + k + ", " + what + ")", x.message(shard, k, what), want[what]);
        }
    }

    /** Shard, kind, transaction and result of a request at once. */
    void request(String when, ShardLedger x, int q, int... want) {
        for (int what = 0; what < want.length; what++) {
            is(when + ": request(" + q + ", " + what + ")", x.request(q, what), want[what]);
        }
    }

    /** What a call answers after a scene. */
    void answer(Scene scene, String call, int want) {
        is(call, scene.answer(Call.parse(call)), want);
    }

    /** A call that answers as due and changes nothing: not what questions answer, and not what later calls do. */
    void refused(Scene before, String call, int want) {
        Call refused = Call.parse(call);
        is(call, before.answer(refused), want);
        Scene after = before.then(List.of(refused));
        same("after " + call + ": ", before.questions(), after.ask(before.questions()), before.picture());
        for (List<Call> future : before.futures()) {
            same("later than " + call + ": ", future, after.live(future), before.live(future));
        }
    }

    /** The calls that are refused for one argument alone: words has a $ in its place. */
    void refusedFor(Scene before, int want, String words, int... outside) {
        for (int value : outside) {
            refused(before, words.replace("$", Integer.toString(value)), want);
        }
    }

    private void same(String when, List<Call> calls, int[] got, int[] want) {
        for (int n = 0; n < got.length; n++) {
            is(when + calls.get(n), got[n], want[n]);
        }
    }

    void end() {
        System.out.println(test + ": " + asked + " answers looked at, " + wrong + " not as due");
        if (wrong != 0) {
            System.exit(1);
        }
    }
}
