import java.util.ArrayList;
import java.util.List;
import java.util.Random;

/** Promises 1 to 17: runs of seeded random calls, held against the model. */
public final class RandomRunsTest {
    private static final int RUNS = 2000;
    private static final int CALLS = 300;
    private static final int BETWEEN_PICTURES = 25;
    private static final int LAST_MESSAGES = 12;
    private static final int[] ODD = {Integer.MIN_VALUE, -3, -2, -1, 4, 5, 6, 7, 8, 19, 20, 32, 1000, Integer.MAX_VALUE};
    private static final Due DUE = new Due("RandomRunsTest");

    private final long seed;
    private final Random random;
    private final ShardLedger x;
    private final Model model;
    private final int[] weights = new int[8];
    private final boolean oddArguments;
    private final int shards;
    private Scene scene;

    private RandomRunsTest(long seed) {
        this.seed = seed;
        random = new Random(seed);
        int liars = random.nextInt(4) + 4 * random.nextInt(3);
        x = new ShardLedger(liars);
        model = new Model(liars);
        scene = Scene.of(liars);
        oddArguments = random.nextInt(4) == 0;
        shards = 1 + random.nextInt(2);
        // By call, in the order of next(); few floods in some runs, for a flood ends what is unsettled.
        int[] usual = {4, 3, 120, random.nextInt(2) * 3, 60, 6, 60, 4};
        for (int i = 0; i < weights.length; i++) {
            weights[i] = random.nextInt(usual[i] + 1);
        }
        weights[0]++;
    }

    public static void main(String[] args) {
        int[] reached = new int[4];
        for (long seed = 0; seed < RUNS; seed++) {
            RandomRunsTest run = new RandomRunsTest(seed);
            run.go();
            run.noteReached(reached);
        }
        System.out.println("RandomRunsTest: " + reached[0] + " proposals with a candidate, " + reached[1]
            + " votes for none, " + reached[2] + " messages of rounds above 0, " + reached[3] + " requests executed");
        DUE.yes("proposals with a candidate are reached", reached[0] > 50);
        DUE.yes("executed requests are reached", reached[3] > 1000);
        DUE.end();
    }

    private void go() {
        List<Call> since = new ArrayList<>();
        for (int n = 1; n <= CALLS; n++) {
            Call call = next();
            int got = call.on(x);
            int want = call.on(model);
            DUE.is("seed " + seed + ", call " + n + ", " + call, got, want);
            if (got != want) {
                return;
            }
            since.add(call);
            if (n % BETWEEN_PICTURES == 0) {
                scene = scene.then(since);
                since.clear();
                if (!samePicture(n)) {
                    return;
                }
            }
        }
    }

    private boolean samePicture(int n) {
        List<Call> questions = questions();
        int[] answers = scene.ask(questions);
        boolean same = true;
        for (int k = 0; k < answers.length; k++) {
            int want = questions.get(k).on(model);
            DUE.is("seed " + seed + ", after call " + n + ", " + questions.get(k), answers[k], want);
            same &= answers[k] == want;
        }
        return same;
    }

    private List<Call> questions() {
        List<Call> list = new ArrayList<>();
        for (int s = 0; s < 2; s++) {
            list.add(Call.of("messages", s));
            for (int k = Math.max(0, model.messages(s) - LAST_MESSAGES); k <= model.messages(s); k++) {
                for (int what = 0; what < 6; what++) {
                    list.add(Call.of("message", s, k, what));
                }
            }
            for (int i = 0; i < 4; i++) {
                askReplica(list, s, i);
            }
        }
        list.add(Call.of("requests"));
        for (int q = -1; q <= model.requests(); q++) {
            for (int what = 0; what < 4; what++) {
                list.add(Call.of("request", q, what));
            }
        }
        for (int t = -1; t <= 8; t++) {
            list.add(Call.of("transaction", t));
        }
        return list;
    }

    private void askReplica(List<Call> list, int s, int i) {
        for (int what = 0; what < 7; what++) {
            list.add(Call.of("replica", s, i, what));
        }
        for (int k = 0; k <= model.replica(s, i, 0); k++) {
            list.add(Call.of("executed", s, i, k));
        }
        for (int n = s; n < 20; n += 2) {
            list.add(Call.of("output", s, i, n));
        }
        list.add(Call.of("value", s, i));
    }

    private void noteReached(int[] reached) {
        for (int s = 0; s < 2; s++) {
            for (Model.Msg m : model.sent.get(s)) {
                reached[0] += m.kind() == 0 && m.cand() >= 0 ? 1 : 0;
                reached[1] += m.kind() == 1 && m.request() < 0 ? 1 : 0;
                reached[2] += m.round() > 0 ? 1 : 0;
            }
            for (Model.Rep r : model.reps.get(s)) {
                reached[3] += r.h();
            }
        }
    }

    private int shard() {
        return number(random.nextInt(shards));
    }

    private int number(int plain) {
        return oddArguments && random.nextInt(12) == 0 ? ODD[random.nextInt(ODD.length)] : plain;
    }

    private int pick() {
        int all = 0;
        for (int w : weights) {
            all += w;
        }
        int left = random.nextInt(all);
        int i = 0;
        while (left >= weights[i]) {
            left -= weights[i];
            i++;
        }
        return i;
    }

    private Call next() {
        return switch (pick()) {
            case 0 -> submit();
            case 1 -> Call.of("client");
            case 2 -> deliver();
            case 3 -> Call.of("flood", shard());
            case 4 -> Call.of("tick", shard(), number(random.nextInt(4)));
            case 5 -> Call.of("sleep", shard(), number(random.nextInt(4)), random.nextInt(3) == 0 ? 1 : 0);
            case 6 -> lie();
            default -> question();
        };
    }

    private Call submit() {
        int outputs = 4 + 2 * model.txs.size();
        int first = number(random.nextInt(outputs));
        int second = number(random.nextInt(outputs + 2) - 2);
        int a = number(random.nextInt(4) == 0 ? random.nextInt(2) * 100 : random.nextInt(210));
        return Call.of("submit", first, second == -2 && !oddArguments ? -1 : second, a);
    }

    private Call deliver() {
        int s = shard();
        int sent = Math.max(1, model.messages(s));
        int i = number(random.nextInt(4));
        int k = number(random.nextInt(sent));
        if (random.nextInt(8) != 0 && model.replica(s, i, 0) >= 0) {
            k = nextUntaken(model.reps.get(s).get(i), k);
        }
        return Call.of("deliver", s, k, i);
    }

    private int nextUntaken(Model.Rep r, int from) {
        int sent = model.messages(r.shard);
        for (int n = 0; n < sent; n++) {
            int k = Math.floorMod(from + n, sent);
            if (!r.takenNumbers.contains(k) && model.message(r.shard, k, 2) == r.h()) {
                return k;
            }
        }
        return from;
    }

    /** Mostly lies that help: in the hearer's round or a later one, and where the liar leads a proposal, too. */
    private Call lie() {
        int s = shard();
        int to = number(random.nextInt(3));
        int kind = number(random.nextInt(3));
        int at = Math.max(0, model.replica(s, to, 1));
        int round = number(random.nextInt(3) == 0 ? random.nextInt(6) : Math.min(5, at + random.nextInt(2)));
        if (kind == 0 && random.nextInt(2) == 0) {
            round = Math.floorMod(3 - model.replica(s, to, 0), 4);
        }
        int q = number(random.nextInt(4) == 0 ? -1 : random.nextInt(1 + model.requests()));
        if (random.nextInt(2) == 0 && model.messages(s) > 0) {
            q = model.message(s, model.messages(s) - 1, 4);
        }
        return Call.of("lie", s, kind, round, q, to);
    }

    private Call question() {
        int s = random.nextInt(3) == 0 ? ODD[random.nextInt(ODD.length)] : random.nextInt(2);
        int n = random.nextInt(2) == 0 ? ODD[random.nextInt(ODD.length)] : random.nextInt(8);
        int w = random.nextInt(2) == 0 ? ODD[random.nextInt(ODD.length)] : random.nextInt(8);
        return switch (random.nextInt(8)) {
            case 0 -> Call.of("messages", s);
            case 1 -> Call.of("message", s, n, w);
            case 2 -> Call.of("replica", s, n, w);
            case 3 -> Call.of("executed", s, n, w);
            case 4 -> Call.of("output", s, n, w);
            case 5 -> Call.of("value", s, n);
            case 6 -> Call.of("request", n, w);
            default -> Call.of("transaction", n);
        };
    }
}
