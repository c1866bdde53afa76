import java.util.ArrayList;
import java.util.List;
import java.util.Random;

/** Promises 1 to 17: runs of seeded random calls, held against the model. */
public final class RandomRunsTest {
    private static final int RUNS = 2000;
    private static final int CALLS = 300;
    private static final int BETWEEN_PICTURES = 25;
    private static final int LAST_MESSAGES = 12;
    private static final Due DUE = new Due("RandomRunsTest");

    private final long seed;
    private final ShardLedger x;
    private final Model model;
    private final RandomCalls calls;
    private Scene scene;

    private RandomRunsTest(long seed) {
        this.seed = seed;
        Random random = new Random(seed);
        int liars = random.nextInt(4) + 4 * random.nextInt(3);
        x = new ShardLedger(liars);
        model = new Model(liars);
        scene = Scene.of(liars);
        calls = new RandomCalls(random, model);
    }

    public static void main(String[] args) {
        int[] reached = new int[4];
        for (long seed = 0; seed < RUNS; seed++) {
            RandomRunsTest run = new RandomRunsTest(seed);
            run.go();
            run.noteReached(reached);
        }
        System.out.println("RandomRunsTest: " + reached[0] + " proposals with a candidate, " + reached[1]
            + " votes for none, " + reached[2] + " messages of rounds above 0, " + reached[3] + " requests executed");
        DUE.yes("proposals with a candidate are reached", reached[0] > 50);
        DUE.yes("executed requests are reached", reached[3] > 1000);
        DUE.end();
    }

    private void go() {
        List<Call> since = new ArrayList<>();
        for (int n = 1; n <= CALLS; n++) {
            Call call = calls.next();
            int got = call.on(x);
            int want = call.on(model);
            DUE.is("seed " + seed + ", call " + n + ", " + call, got, want);
            if (got != want) {
                return;
            }
            since.add(call);
            if (n % BETWEEN_PICTURES == 0) {
                scene = scene.then(since);
                since.clear();
                if (!samePicture(n)) {
                    return;
                }
            }
        }
    }

    private boolean samePicture(int n) {
        List<Call> questions = questions();
        int[] answers = scene.ask(questions);
        boolean same = true;
        for (int k = 0; k < answers.length; k++) {
            int want = questions.get(k).on(model);
            DUE.is("seed " + seed + ", after call " + n + ", " + questions.get(k), answers[k], want);
            same &= answers[k] == want;
        }
        return same;
    }

    private List<Call> questions() {
        List<Call> list = new ArrayList<>();
        for (int s = 0; s < 2; s++) {
            list.add(Call.of("messages", s));
            for (int k = Math.max(0, model.messages(s) - LAST_MESSAGES); k <= model.messages(s); k++) {
                for (int what = 0; what < 6; what++) {
                    list.add(Call.of("message", s, k, what));
                }
            }
            for (int i = 0; i < 4; i++) {
                askReplica(list, s, i);
            }
        }
        list.add(Call.of("requests"));
        for (int q = -1; q <= model.requests(); q++) {
            for (int what = 0; what < 4; what++) {
                list.add(Call.of("request", q, what));
            }
        }
        for (int t = -1; t <= 8; t++) {
            list.add(Call.of("transaction", t));
        }
        return list;
    }

    private void askReplica(List<Call> list, int s, int i) {
        for (int what = 0; what < 7; what++) {
            list.add(Call.of("replica", s, i, what));
        }
        for (int k = 0; k <= model.replica(s, i, 0); k++) {
            list.add(Call.of("executed", s, i, k));
        }
        for (int n = s; n < 20; n += 2) {
            list.add(Call.of("output", s, i, n));
        }
        list.add(Call.of("value", s, i));
    }

    private void noteReached(int[] reached) {
        for (int s = 0; s < 2; s++) {
            for (Model.Msg m : model.sent.get(s)) {
                reached[0] += m.kind() == 0 && m.cand() >= 0 ? 1 : 0;
                reached[1] += m.kind() == 1 && m.request() < 0 ? 1 : 0;
                reached[2] += m.round() > 0 ? 1 : 0;
            }
            for (Model.Rep r : model.reps.get(s)) {
                reached[3] += r.h();
            }
        }
    }
}
