import java.util.ArrayList;
import java.util.HashMap;
import java.util.HashSet;
import java.util.List;
import java.util.Map;
import java.util.Random;
import java.util.Set;

/**
 * The document's first sentence: whatever is delivered, ticked, put to sleep and lied, the replicas of a shard agree on
 * one request after the other, and a transaction is done in both shards or in neither. Looked at after seeded random
 * calls, and once more when everybody is awake again and the messages have arrived.
 */
public final class AgreementTest {
    private static final int RUNS = 1500;
    private static final int SHREWD_RUNS = 3000;
    private static final int CALLS = 240;
    private static final int ALL_AMOUNTS = 400;
    private static final int COMMIT = 1;
    private static final int ABORT = 2;
    private static final int COMMITTED = 3;
    private static final int ABORTED = 4;
    private static final Due DUE = new Due("AgreementTest");

    private final String when;
    private final Map<String, Integer> answers = new HashMap<>();

    private AgreementTest(Scene scene, String when) {
        this.when = when;
        List<Call> questions = questions();
        int[] got = scene.ask(questions);
        for (int n = 0; n < got.length; n++) {
            answers.put(questions.get(n).toString(), got[n]);
        }
    }

    public static void main(String[] args) {
        int ended = 0;
        for (long seed = 0; seed < RUNS; seed++) {
            Random random = new Random(seed);
            int liars = random.nextInt(4);
            Scene wild = Scene.of(liars).then(calls(random, new Model(liars)));
            new AgreementTest(wild, "seed " + seed).look();
            AgreementTest settled = new AgreementTest(wild.then(settling()), "seed " + seed + ", settled");
            settled.look();
            ended += settled.lookAtTheEnd();
        }
        System.out.println("AgreementTest: in " + ended + " runs all transactions came to their end");
        DUE.yes("transactions that end are reached", ended > RUNS / 4);
        for (long seed = 0; seed < SHREWD_RUNS; seed++) {
            List<Call> calls = ShrewdLiar.calls(new Random(seed), CALLS);
            new AgreementTest(Scene.of(ShrewdLiar.LIARS).then(calls), "shrewd liar, seed " + seed).look();
        }
        lockKeepsFromAnother();
        DUE.end();
    }

    /**
     * The liar, who leads, gets 1 and 2 to seal request 5, and 1 alone to execute it. Then he helps 0, who knows nothing
     * of it, with request 4; but 2 has a lock, and without 2 there are no three votes for 4.
     */
    private static void lockKeepsFromAnother() {
        Scene sealed = Scene.of(ShrewdLiar.LIARS).then(ShrewdLiar.START).then("tick(0, 0)", "lie(0, 0, 0, 5, 1)",
            "lie(0, 0, 0, 5, 2)", "deliver(0, 23, 1)", "deliver(0, 22, 2)", "lie(0, 1, 0, 5, 1)", "lie(0, 1, 0, 5, 2)",
            "deliver(0, 25, 1)", "lie(0, 2, 0, 5, 1)");
        DUE.answer(sealed, "executed(0, 1, 3)", 5);
        Scene nextRound = sealed.then("deliver(0, 22, 0)", "deliver(0, 23, 0)", "tick(0, 0)", "deliver(0, 24, 0)",
            "deliver(0, 25, 0)", "tick(0, 0)", "deliver(0, 24, 2)", "deliver(0, 26, 2)", "tick(0, 2)");
        DUE.answer(nextRound, "message(0, 27, 4)", 4);
        DUE.answer(nextRound, "replica(0, 2, 1)", 1);
        DUE.answer(nextRound, "replica(0, 2, 3)", 5);
        Scene tempted = nextRound.then("deliver(0, 27, 2)", "deliver(0, 28, 2)", "deliver(0, 29, 0)", "lie(0, 1, 1, 4, 0)",
            "lie(0, 1, 1, 4, 2)", "deliver(0, 30, 2)", "deliver(0, 31, 0)", "lie(0, 2, 1, 4, 0)", "lie(0, 2, 1, 4, 2)");
        DUE.answer(tempted, "executed(0, 0, 3)", -1);
        DUE.answer(tempted, "executed(0, 2, 3)", -1);
        new AgreementTest(tempted, "after the temptation").look();
    }

    private static List<Call> calls(Random random, Model model) {
        RandomCalls calls = new RandomCalls(random, model);
        List<Call> list = new ArrayList<>();
        for (int n = 0; n < CALLS; n++) {
            Call call = calls.next();
            call.on(model);
            list.add(call);
        }
        return list;
    }

    private static List<Call> settling() {
        List<Call> list = new ArrayList<>();
        for (int n = 0; n < 8; n++) {
            list.add(Call.of("sleep", n / 4, n % 4, 0));
        }
        for (int n = 0; n < 12; n++) {
            list.addAll(Call.all("flood(0)", "flood(1)", "client()", "flood(0)", "flood(1)", "client()"));
            for (int i = 0; i < 8; i++) {
                list.add(Call.of("tick", i / 4, i % 4));
            }
        }
        return list;
    }

    private void look() {
        for (int s = 0; s < 2; s++) {
            List<Integer> longest = longest(s);
            DUE.is(when + ": different requests executed in shard " + s, new HashSet<>(longest).size(), longest.size());
            for (int q : longest) {
                DUE.is(when + ": shard of the executed request " + q, ask("request", q, 0), s);
            }
            for (int i = 0; i < 4; i++) {
                List<Integer> own = executed(s, i);
                boolean begins = longest.subList(0, own.size()).equals(own);
                DUE.yes(when + ": shard " + s + ", replica " + i + " executed " + own + " of " + longest, begins);
            }
        }
        for (int t = 0; t < 8; t++) {
            boolean both = !shardsOf(COMMIT, t).isEmpty() && !shardsOf(ABORT, t).isEmpty();
            DUE.no(when + ": transaction " + t + " is committed and aborted", both);
        }
    }

    /** When no transaction is under way, nothing is locked and no amount has come or gone; 1 when that is so. */
    private int lookAtTheEnd() {
        for (int t = 0; t < 8; t++) {
            int state = ask("transaction", t);
            if (state >= 0 && state != COMMITTED && state != ABORTED) {
                return 0;
            }
        }
        int sum = 0;
        for (int s = 0; s < 2; s++) {
            int i = foremost(s);
            sum += ask("value", s, i);
            for (int n = s; n < 20; n += 2) {
                DUE.no(when + ": output " + n + " is locked", ask("output", s, i, n) == 2);
            }
        }
        DUE.is(when + ": all amounts", sum, ALL_AMOUNTS);
        return 1;
    }

    private Set<Integer> shardsOf(int kind, int t) {
        Set<Integer> shards = new HashSet<>();
        for (int q = 0; q < ask("requests"); q++) {
            if (ask("request", q, 1) == kind && ask("request", q, 2) == t) {
                shards.add(ask("request", q, 0));
            }
        }
        return shards;
    }

    private int foremost(int s) {
        int best = 0;
        for (int i = 1; i < 4; i++) {
            best = ask("replica", s, i, 0) > ask("replica", s, best, 0) ? i : best;
        }
        return best;
    }

    private List<Integer> longest(int s) {
        return executed(s, foremost(s));
    }

    private List<Integer> executed(int s, int i) {
        List<Integer> list = new ArrayList<>();
        for (int k = 0; k < ask("replica", s, i, 0); k++) {
            list.add(ask("executed", s, i, k));
        }
        return list;
    }

    private int ask(String name, int... with) {
        return answers.get(Call.of(name, with).toString());
    }

    private static List<Call> questions() {
        List<Call> list = new ArrayList<>();
        for (int n = 0; n < 8; n++) {
            int s = n / 4;
            int i = n % 4;
            list.add(Call.of("transaction", n));
            list.add(Call.of("value", s, i));
            list.add(Call.of("replica", s, i, 0));
            for (int k = 0; k < 16; k++) {
                list.add(Call.of("executed", s, i, k));
            }
            for (int output = s; output < 20; output += 2) {
                list.add(Call.of("output", s, i, output));
            }
        }
        list.add(Call.of("requests"));
        for (int n = 0; n < 32 * 3; n++) {
            list.add(Call.of("request", n / 3, n % 3));
        }
        return list;
    }
}
