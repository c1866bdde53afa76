import java.util.Random;

/** Promises 1 to 17: runs of seeded random calls, held against the model after every call. */
public final class RandomRunsTest {
    private static final int RUNS = 2000;
    private static final int CALLS = 300;
    private static final int[] ODD = {Integer.MIN_VALUE, -3, -2, -1, 4, 5, 6, 7, 8, 19, 20, 32, 1000, Integer.MAX_VALUE};

    private final Random random;
    private final ShardLedger x;
    private final Model model;
    private final int[] weights = new int[8];
    private final boolean oddArguments;
    private final int shards;
    private String call = "new";
    private long got;
    private long want;

    private RandomRunsTest(long seed) {
        random = new Random(seed);
        int liars = random.nextInt(4) + 4 * random.nextInt(3);
        x = new ShardLedger(liars);
        model = new Model(liars);
        oddArguments = random.nextInt(4) == 0;
        shards = 1 + random.nextInt(2);
        // By call, in the order of callBoth; few floods in some runs, for a flood ends what is unsettled.
        int[] usual = {4, 3, 120, random.nextInt(2) * 3, 60, 6, 60, 4};
        for (int i = 0; i < weights.length; i++) {
            weights[i] = random.nextInt(usual[i] + 1);
        }
        weights[0]++;
    }

    public static void main(String[] args) {
        Due due = new Due("RandomRunsTest");
        long acts = 0;
        int[] reached = new int[4];
        for (long seed = 0; seed < RUNS; seed++) {
            RandomRunsTest run = new RandomRunsTest(seed);
            int calls = 0;
            boolean same = true;
            while (same && calls < CALLS) {
                run.callBoth();
                calls++;
                same = run.got == run.want && run.sameState();
                due.is("seed " + seed + ", call " + calls + ", " + run.call, run.got, run.want);
                if (run.got == run.want && !same) {
                    due.is("seed " + seed + ", call " + calls + ", after " + run.call + ": " + run.difference, 0, 1);
                }
            }
            acts += run.model.acts;
            run.noteReached(reached);
        }
        System.out.println("RandomRunsTest: " + acts + " acts; " + reached[0] + " proposals with a candidate, "
            + reached[1] + " votes for none, " + reached[2] + " messages of rounds above 0, "
            + reached[3] + " requests executed");
        due.end();
    }

    private void noteReached(int[] reached) {
        for (int s = 0; s < 2; s++) {
            for (Model.Msg m : model.sent.get(s)) {
                reached[0] += m.kind() == 0 && m.cand() >= 0 ? 1 : 0;
                reached[1] += m.kind() == 1 && m.request() < 0 ? 1 : 0;
                reached[2] += m.round() > 0 ? 1 : 0;
            }
            for (Model.Rep r : model.reps.get(s)) {
                reached[3] += r.h();
            }
        }
    }

    private int shard() {
        return number(random.nextInt(shards));
    }

    private int number(int plain) {
        return oddArguments && random.nextInt(12) == 0 ? ODD[random.nextInt(ODD.length)] : plain;
    }

    private int pick() {
        int all = 0;
        for (int w : weights) {
            all += w;
        }
        int left = random.nextInt(all);
        int i = 0;
        while (left >= weights[i]) {
            left -= weights[i];
            i++;
        }
        return i;
    }

    private void callBoth() {
        switch (pick()) {
            case 0 -> submit();
            case 1 -> {
                call = "client()";
                got = x.client();
                want = model.client();
            }
            case 2 -> deliver();
            case 3 -> {
                int s = shard();
                call = "flood(" + s + ")";
                got = x.flood(s);
                want = model.flood(s);
            }
            case 4 -> {
                int s = shard();
                int i = number(random.nextInt(4));
                call = "tick(" + s + ", " + i + ")";
                got = x.tick(s, i) ? 1 : 0;
                want = model.tick(s, i) ? 1 : 0;
            }
            case 5 -> {
                int s = shard();
                int i = number(random.nextInt(4));
                boolean on = random.nextInt(3) == 0;
                call = "sleep(" + s + ", " + i + ", " + on + ")";
                got = x.sleep(s, i, on) ? 1 : 0;
                want = model.sleep(s, i, on) ? 1 : 0;
            }
            case 6 -> lie();
            default -> asks();
        }
    }

    private void submit() {
        int outputs = 4 + 2 * model.txs.size();
        int first = number(random.nextInt(outputs));
        int second = number(random.nextInt(outputs + 2) - 2);
        int a = number(random.nextInt(4) == 0 ? random.nextInt(2) * 100 : random.nextInt(210));
        second = second == -2 && !oddArguments ? -1 : second;
        call = "submit(" + first + ", " + second + ", " + a + ")";
        got = x.submit(first, second, a);
        want = model.submit(first, second, a);
    }

    private void deliver() {
        int s = shard();
        int sent = Math.max(1, model.messages(s));
        int i = number(random.nextInt(4));
        int k = number(random.nextInt(sent));
        if (random.nextInt(8) != 0 && model.replica(s, i, 0) >= 0) {
            k = nextUntaken(model.reps.get(s).get(i), k);
        }
        call = "deliver(" + s + ", " + k + ", " + i + ")";
        got = x.deliver(s, k, i) ? 1 : 0;
        want = model.deliver(s, k, i) ? 1 : 0;
    }

    private int nextUntaken(Model.Rep r, int from) {
        int sent = model.messages(r.shard);
        for (int n = 0; n < sent; n++) {
            int k = Math.floorMod(from + n, sent);
            if (!r.takenNumbers.contains(k) && model.message(r.shard, k, 2) == r.h()) {
                return k;
            }
        }
        return from;
    }

    /** Mostly lies that help: in the hearer's round or a later one, and where the liar leads a proposal, too. */
    private void lie() {
        int s = shard();
        int to = number(random.nextInt(3));
        int kind = number(random.nextInt(3));
        int at = Math.max(0, model.replica(s, to, 1));
        int round = number(random.nextInt(3) == 0 ? random.nextInt(6) : Math.min(5, at + random.nextInt(2)));
        if (kind == 0 && random.nextInt(2) == 0) {
            round = Math.floorMod(3 - model.replica(s, to, 0), 4);
        }
        int q = number(random.nextInt(4) == 0 ? -1 : random.nextInt(1 + model.requests()));
        if (random.nextInt(2) == 0 && model.messages(s) > 0) {
            q = model.message(s, model.messages(s) - 1, 4);
        }
        call = "lie(" + s + ", " + kind + ", " + round + ", " + q + ", " + to + ")";
        got = x.lie(s, kind, round, q, to) ? 1 : 0;
        want = model.lie(s, kind, round, q, to) ? 1 : 0;
    }

    private void asks() {
        int s = ODD[random.nextInt(ODD.length)];
        int n = random.nextInt(2) == 0 ? ODD[random.nextInt(ODD.length)] : random.nextInt(8);
        int w = random.nextInt(2) == 0 ? ODD[random.nextInt(ODD.length)] : random.nextInt(8);
        s = random.nextInt(3) == 0 ? s : random.nextInt(2);
        call = "questions with " + s + ", " + n + ", " + w;
        got = mix(x.messages(s), x.message(s, n, w), x.replica(s, n, w), x.executed(s, n, w), x.output(s, n, w),
            x.value(s, n), x.request(n, w), x.transaction(n));
        want = mix(model.messages(s), model.message(s, n, w), model.replica(s, n, w), model.executed(s, n, w),
            model.output(s, n, w), model.value(s, n), model.request(n, w), model.transaction(n));
    }

    private static long mix(int... answers) {
        long sum = 7;
        for (int answer : answers) {
            sum = sum * 1000003 + answer;
        }
        return sum;
    }

    private String difference = "";

    private boolean differs(String what, int here, int there) {
        if (here != there) {
            difference = what + " is " + here + ", due is " + there;
        }
        return here != there;
    }

    private boolean sameState() {
        for (int s = 0; s < 2; s++) {
            if (differs("messages(" + s + ")", x.messages(s), model.messages(s)) || !sameReplicas(s)) {
                return false;
            }
            for (int k = Math.max(0, model.messages(s) - 12); k < model.messages(s); k++) {
                for (int what = 0; what < 6; what++) {
                    if (differs("message " + s + " " + k + " " + what, x.message(s, k, what), model.message(s, k, what))) {
                        return false;
                    }
                }
            }
        }
        for (int q = -1; q <= model.requests(); q++) {
            for (int what = 0; what < 4; what++) {
                if (differs("request " + q + " " + what, x.request(q, what), model.request(q, what))) {
                    return false;
                }
            }
        }
        for (int t = -1; t <= 8; t++) {
            if (differs("transaction " + t, x.transaction(t), model.transaction(t))) {
                return false;
            }
        }
        return !differs("requests", x.requests(), model.requests());
    }

    private boolean sameReplicas(int s) {
        for (int i = 0; i < 4; i++) {
            for (int what = 0; what < 7; what++) {
                if (differs("replica " + s + " " + i + " " + what, x.replica(s, i, what), model.replica(s, i, what))) {
                    return false;
                }
            }
            for (int n = 0; n < 20; n++) {
                if (differs("output " + s + " " + i + " " + n, x.output(s, i, n), model.output(s, i, n))
                    || differs("executed " + s + " " + i + " " + n, x.executed(s, i, n), model.executed(s, i, n))) {
                    return false;
                }
            }
            if (differs("value " + s + " " + i, x.value(s, i), model.value(s, i))) {
                return false;
            }
        }
        return true;
    }
}
