import java.util.Random;

/** Seeded random calls. The model to which they are made, too, tells which calls are likely to do something. */
final class RandomCalls {
    private static final int[] ODD = {Integer.MIN_VALUE, -3, -2, -1, 4, 5, 6, 7, 8, 19, 20, 32, 1000, Integer.MAX_VALUE};

    private final Random random;
    private final Model model;
    private final int[] weights = new int[8];
    private final boolean oddArguments;
    private final int shards;

    RandomCalls(Random random, Model model) {
        this.random = random;
        this.model = model;
        oddArguments = random.nextInt(4) == 0;
        shards = 1 + random.nextInt(2);
        // By call, in the order of next(); few floods in some runs, for a flood ends what is unsettled.
        int[] usual = {4, 3, 120, random.nextInt(2) * 3, 60, 6, 60, 4};
        for (int i = 0; i < weights.length; i++) {
            weights[i] = random.nextInt(usual[i] + 1);
        }
        weights[0]++;
    }

    private int shard() {
        return number(random.nextInt(shards));
    }

    private int number(int plain) {
        return oddArguments && random.nextInt(12) == 0 ? ODD[random.nextInt(ODD.length)] : plain;
    }

    private int pick() {
        int all = 0;
        for (int w : weights) {
            all += w;
        }
        int left = random.nextInt(all);
        int i = 0;
        while (left >= weights[i]) {
            left -= weights[i];
            i++;
        }
        return i;
    }

    Call next() {
        return switch (pick()) {
            case 0 -> submit();
            case 1 -> Call.of("client");
            case 2 -> deliver();
            case 3 -> Call.of("flood", shard());
            case 4 -> Call.of("tick", shard(), number(random.nextInt(4)));
            case 5 -> Call.of("sleep", shard(), number(random.nextInt(4)), random.nextInt(3) == 0 ? 1 : 0);
            case 6 -> lie();
            default -> question();
        };
    }

    private Call submit() {
        int outputs = 4 + 2 * model.txs.size();
        int first = number(random.nextInt(outputs));
        int second = number(random.nextInt(outputs + 2) - 2);
        int a = number(random.nextInt(4) == 0 ? random.nextInt(2) * 100 : random.nextInt(210));
        return Call.of("submit", first, second == -2 && !oddArguments ? -1 : second, a);
    }

    private Call deliver() {
        int s = shard();
        int sent = Math.max(1, model.messages(s));
        int i = number(random.nextInt(4));
        int k = number(random.nextInt(sent));
        if (random.nextInt(8) != 0 && model.replica(s, i, 0) >= 0) {
            k = nextUntaken(model.reps.get(s).get(i), k);
        }
        return Call.of("deliver", s, k, i);
    }

    private int nextUntaken(Model.Rep r, int from) {
        int sent = model.messages(r.shard);
        for (int n = 0; n < sent; n++) {
            int k = Math.floorMod(from + n, sent);
            if (!r.takenNumbers.contains(k) && model.message(r.shard, k, 2) == r.h()) {
                return k;
            }
        }
        return from;
    }

    /** Mostly lies that help: in the hearer's round or a later one, and where the liar leads a proposal, too. */
    private Call lie() {
        int s = shard();
        int to = number(random.nextInt(3));
        int kind = number(random.nextInt(3));
        int at = Math.max(0, model.replica(s, to, 1));
        int round = number(random.nextInt(3) == 0 ? random.nextInt(6) : Math.min(5, at + random.nextInt(2)));
        if (kind == 0 && random.nextInt(2) == 0) {
            round = Math.floorMod(3 - model.replica(s, to, 0), 4);
        }
        int q = number(random.nextInt(4) == 0 ? -1 : random.nextInt(1 + model.requests()));
        if (random.nextInt(2) == 0 && model.messages(s) > 0) {
            q = model.message(s, model.messages(s) - 1, 4);
        }
        return Call.of("lie", s, kind, round, q, to);
    }

    private Call question() {
        int s = random.nextInt(3) == 0 ? ODD[random.nextInt(ODD.length)] : random.nextInt(2);
        int n = random.nextInt(2) == 0 ? ODD[random.nextInt(ODD.length)] : random.nextInt(8);
        int w = random.nextInt(2) == 0 ? ODD[random.nextInt(ODD.length)] : random.nextInt(8);
        return switch (random.nextInt(8)) {
            case 0 -> Call.of("messages", s);
            case 1 -> Call.of("message", s, n, w);
            case 2 -> Call.of("replica", s, n, w);
            case 3 -> Call.of("executed", s, n, w);
            case 4 -> Call.of("output", s, n, w);
            case 5 -> Call.of("value", s, n);
            case 6 -> Call.of("request", n, w);
            default -> Call.of("transaction", n);
        };
    }
}
