import java.util.ArrayList;
import java.util.List;
import java.util.Random;

/**
 * Seeded random calls of a liar who wants the replicas of shard 0 to disagree: he leads their first round at height 3,
 * proposes to each what he likes, and backs with his votes and seals whatever each of them could be made to believe.
 */
final class ShrewdLiar {
    static final int LIARS = 1;
    private static final int LIAR = 3;
    /** Replicas 0, 1 and 2 are at height 3 then, and requests 4, 5 and 6 are good for them. */
    static final List<Call> START = Call.all("submit(0, -1, 50)", "submit(0, 1, 50)", "submit(2, -1, 50)",
        "submit(2, -1, 70)", "submit(0, -1, 10)", "submit(0, 2, 10)", "flood(0)");

    private final Random random;
    private final Model model;
    private final int patience;
    private final List<Call> calls = new ArrayList<>();

    private ShrewdLiar(Random random, Model model) {
        this.random = random;
        this.model = model;
        patience = 1 + random.nextInt(6);
    }

    static List<Call> calls(Random random, int howMany) {
        ShrewdLiar liar = new ShrewdLiar(random, new Model(LIARS));
        START.forEach(liar::make);
        while (liar.calls.size() < howMany) {
            liar.make(liar.next());
        }
        return liar.calls;
    }

    private void make(Call call) {
        call.on(model);
        calls.add(call);
    }

    private Call next() {
        Model.Rep hearer = model.reps.get(0).get(random.nextInt(3));
        int dice = random.nextInt(20);
        if (dice < patience) {
            return Call.of("tick", 0, hearer.number);
        }
        return dice < 12 ? deliver(hearer) : lie(hearer);
    }

    private Call deliver(Model.Rep to) {
        List<Integer> left = new ArrayList<>();
        for (int k = 0; k < model.messages(0); k++) {
            if (!to.takenNumbers.contains(k) && model.message(0, k, 2) == to.h()) {
                left.add(k);
            }
        }
        int k = left.isEmpty() ? 0 : left.get(random.nextInt(left.size()));
        return Call.of("deliver", 0, k, to.number);
    }

    private Call lie(Model.Rep to) {
        int kind = random.nextInt(3);
        if (kind == 0) {
            int led = Math.floorMod(LIAR - to.h(), 4);
            return Call.of("lie", 0, kind, led, random.nextInt(model.requests()), to.number);
        }
        return Call.of("lie", 0, kind, to.round, heardOf(to), to.number);
    }

    /** What somebody has voted or sealed in the hearer's round already, so that it needs one voice less. */
    private int heardOf(Model.Rep to) {
        List<Integer> requests = new ArrayList<>();
        for (Model.Msg m : to.taken) {
            if (m.height() == to.h() && m.round() == to.round && m.request() >= 0) {
                requests.add(m.request());
            }
        }
        return requests.isEmpty() ? -1 : requests.get(random.nextInt(requests.size()));
    }
}
