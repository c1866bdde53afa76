import java.util.ArrayList;
import java.util.HashSet;
import java.util.List;
import java.util.Set;

/**
 * The document once more, as literally as can be and without any care for room or speed: every message that a replica
 * ever took is kept, and each rule is asked of all of them. Random runs hold ShardLedger against it.
 */
final class Model {
    /** cand: the candidate's round of a proposal, -1 for none. */
    record Msg(int kind, int sender, int height, int round, int request, int cand) { }

    record Req(int shard, int kind, int t) { }

    static final class Tx {
        final List<Integer> inputs = new ArrayList<>();
        final int number;
        int state;

        Tx(int number) {
            this.number = number;
        }
    }

    final class Rep {
        final int shard;
        final int number;
        final boolean faulty;
        final List<Msg> taken = new ArrayList<>();
        final Set<Integer> takenNumbers = new HashSet<>();
        final List<Integer> executed = new ArrayList<>();
        final List<Integer> results = new ArrayList<>();
        final int[] state = new int[20];
        final int[] locker = new int[20];
        boolean asleep;
        int round;
        int step;
        int lock = -1;
        int lockRound = -1;
        int cand = -1;
        int candRound = -1;

        Rep(int shard, int number, boolean faulty) {
            this.shard = shard;
            this.number = number;
            this.faulty = faulty;
            for (int n = 0; n < 4; n++) {
                if (n % 2 == shard) {
                    state[n] = 1;
                }
            }
        }

        int h() {
            return executed.size();
        }

        boolean out() {
            return faulty || asleep;
        }

        List<Msg> counting() {
            List<Msg> list = new ArrayList<>();
            for (Msg m : taken) {
                boolean falseLeader = m.kind == 0 && m.sender != (m.height + m.round) % 4;
                if (m.height == h() && !falseLeader) {
                    list.add(m);
                }
            }
            return list;
        }

        boolean good(int q) {
            return q >= 0 && reqs.get(q).shard == shard && !executed.contains(q);
        }

        boolean three(int kind, int r, int q) {
            Set<Integer> senders = new HashSet<>();
            for (Msg m : counting()) {
                if (m.kind == kind && m.round == r && m.request == q) {
                    senders.add(m.sender);
                }
            }
            return senders.size() >= 3;
        }

        boolean threeOfAny(int kind) {
            Set<Integer> senders = new HashSet<>();
            for (Msg m : counting()) {
                if (m.kind == kind && m.round == round) {
                    senders.add(m.sender);
                }
            }
            return senders.size() >= 3;
        }

        List<Msg> proposals(int r) {
            List<Msg> list = new ArrayList<>();
            for (Msg m : counting()) {
                if (m.kind == 0 && m.round == r) {
                    list.add(m);
                }
            }
            if (list.size() > 1) {
                throw new IllegalStateException("two proposals of a height and a round");
            }
            return list;
        }

        void send(int kind, int q, int c) {
            Msg m = new Msg(kind, number, h(), round, q, c);
            takenNumbers.add(sent.get(shard).size());
            sent.get(shard).add(m);
            taken.add(m);
        }

        void act() {
            boolean acting = true;
            while (acting) {
                acting = !out() && (one() || two() || proposes() || four() || five() || six());
            }
        }

        boolean one() {
            for (int r = 0; r <= 5; r++) {
                for (Msg p : proposals(r)) {
                    if (good(p.request) && three(2, r, p.request)) {
                        results.add(execute(reqs.get(p.request)));
                        executed.add(p.request);
                        round = 0;
                        step = 0;
                        lock = lockRound = cand = candRound = -1;
                        return true;
                    }
                }
            }
            return false;
        }

        int execute(Req q) {
            Tx t = txs.get(q.t);
            List<Integer> mine = new ArrayList<>();
            for (int n : t.inputs) {
                if (n % 2 == shard) {
                    mine.add(n);
                }
            }
            if (q.kind == 0) {
                for (int n : mine) {
                    if (state[n] != 1) {
                        return 2;
                    }
                }
                for (int n : mine) {
                    state[n] = 2;
                    locker[n] = q.t;
                }
            } else if (q.kind == 1) {
                for (int n : mine) {
                    state[n] = 3;
                }
                int made = 4 + 2 * q.t + shard;
                if (amount.get(made) > 0) {
                    state[made] = 1;
                }
            } else {
                for (int n : mine) {
                    if (state[n] == 2 && locker[n] == q.t) {
                        state[n] = 1;
                    }
                }
            }
            return 1;
        }

        boolean two() {
            for (int r = round + 1; r <= 5; r++) {
                Set<Integer> senders = new HashSet<>();
                for (Msg m : counting()) {
                    if (m.round == r) {
                        senders.add(m.sender);
                    }
                }
                if (senders.size() >= 2) {
                    round = r;
                    step = 0;
                    return true;
                }
            }
            return false;
        }

        boolean proposes() {
            if (step != 0 || (h() + round) % 4 != number) {
                return false;
            }
            for (Msg m : taken) {
                if (m.kind == 0 && m.sender == number && m.height == h() && m.round == round) {
                    return false;
                }
            }
            if (cand != -1) {
                send(0, cand, candRound);
                return true;
            }
            for (int q = 0; q < reqs.size(); q++) {
                if (good(q)) {
                    send(0, q, -1);
                    return true;
                }
            }
            return false;
        }

        boolean four() {
            if (step != 0) {
                return false;
            }
            for (Msg p : proposals(round)) {
                int c = p.cand;
                int q = p.request;
                if (c == -1 || c >= round || three(1, c, q)) {
                    // Read with "and" before "or", as the other reading is ShardLedger's: no run tells them apart.
                    boolean forIt = good(q) && c < round && lock == -1 || lock == q || c != -1 && lockRound <= c;
                    send(1, forIt ? q : -1, -1);
                    step = 1;
                    return true;
                }
            }
            return false;
        }

        boolean five() {
            if (step == 0 || cand != -1 && candRound == round) {
                return false;
            }
            for (Msg p : proposals(round)) {
                int q = p.request;
                if (good(q) && three(1, round, q)) {
                    cand = q;
                    candRound = round;
                    if (step == 1) {
                        lock = q;
                        lockRound = round;
                        send(2, q, -1);
                        step = 2;
                    }
                    return true;
                }
            }
            return false;
        }

        boolean six() {
            if (step != 1 || !three(1, round, -1)) {
                return false;
            }
            send(2, -1, -1);
            step = 2;
            return true;
        }
    }

    final List<Req> reqs = new ArrayList<>();
    final List<Tx> txs = new ArrayList<>();
    final List<Integer> amount = new ArrayList<>(List.of(100, 100, 100, 100));
    final List<List<Msg>> sent = List.of(new ArrayList<>(), new ArrayList<>());
    final List<List<Rep>> reps = List.of(new ArrayList<>(), new ArrayList<>());

    Model(int liars) {
        for (int s = 0; s < 2; s++) {
            for (int i = 0; i < 4; i++) {
                reps.get(s).add(new Rep(s, i, i == 3 && (liars & 1 << s) != 0));
            }
        }
    }

    private Rep rep(int s, int i) {
        return s < 0 || s > 1 || i < 0 || i > 3 ? null : reps.get(s).get(i);
    }

    private void allAct() {
        reps.get(0).forEach(Rep::act);
        reps.get(1).forEach(Rep::act);
    }

    private Set<Integer> inputShards(Tx t) {
        Set<Integer> set = new HashSet<>();
        t.inputs.forEach(n -> set.add(n % 2));
        return set;
    }

    private int answered(int q) {
        int executions = 0;
        int result = 0;
        for (Rep r : reps.get(reqs.get(q).shard)) {
            int at = r.executed.indexOf(q);
            if (at >= 0) {
                executions++;
                if (result != 0 && result != r.results.get(at)) {
                    throw new IllegalStateException("two results of a request");
                }
                result = r.results.get(at);
            }
        }
        return executions >= 2 ? result : 0;
    }

    int submit(int first, int second, int a) {
        int outputs = amount.size();
        if (first < 0 || first >= outputs || second < -1 || second >= outputs || first == second) {
            return -1;
        }
        long sum = amount.get(first) + (second == -1 ? 0 : amount.get(second));
        if (a < 0 || a > sum) {
            return -1;
        }
        if (txs.size() == 8) {
            return -2;
        }
        Tx t = new Tx(txs.size());
        t.inputs.add(first);
        if (second != -1) {
            t.inputs.add(second);
        }
        txs.add(t);
        amount.add(a);
        amount.add((int) sum - a);
        for (int s = 0; s < 2; s++) {
            if (inputShards(t).contains(s)) {
                reqs.add(new Req(s, 0, t.number));
            }
        }
        allAct();
        return t.number;
    }

    int client() {
        int made = 0;
        for (Tx t : txs) {
            int before = reqs.size();
            look(t);
            made += reqs.size() - before;
        }
        allAct();
        return made;
    }

    private List<Integer> answers(Tx t, int kind) {
        List<Integer> list = new ArrayList<>();
        for (int q = 0; q < reqs.size(); q++) {
            if (reqs.get(q).t == t.number && reqs.get(q).kind == kind) {
                list.add(answered(q));
            }
        }
        return list;
    }

    private void look(Tx t) {
        if (t.state > 2 || answers(t, t.state).contains(0)) {
            return;
        }
        if (t.state != 0) {
            t.state += 2;
            return;
        }
        boolean aborts = answers(t, 0).contains(2);
        Set<Integer> shards = inputShards(t);
        for (int s = 0; s < 2; s++) {
            if (!aborts && amount.get(4 + 2 * t.number + s) > 0) {
                shards.add(s);
            }
        }
        for (int s = 0; s < 2; s++) {
            if (shards.contains(s)) {
                reqs.add(new Req(s, aborts ? 2 : 1, t.number));
            }
        }
        t.state = aborts ? 2 : 1;
    }

    boolean deliver(int s, int k, int i) {
        Rep r = rep(s, i);
        if (r == null || r.out() || k < 0 || k >= sent.get(s).size() || r.takenNumbers.contains(k)) {
            return false;
        }
        Msg m = sent.get(s).get(k);
        if (r.h() < m.height) {
            return false;
        }
        r.takenNumbers.add(k);
        r.taken.add(m);
        r.act();
        return true;
    }

    int flood(int s) {
        if (s < 0 || s > 1) {
            return -1;
        }
        int total = 0;
        boolean again = true;
        while (again) {
            again = false;
            for (int k = 0; k < sent.get(s).size(); k++) {
                for (int i = 0; i < 4; i++) {
                    if (deliver(s, k, i)) {
                        total++;
                        again = true;
                    }
                }
            }
        }
        return total;
    }

    boolean tick(int s, int i) {
        Rep r = rep(s, i);
        if (r == null || r.out()) {
            return false;
        }
        if (r.step == 0) {
            r.send(1, -1, -1);
            r.step = 1;
        } else if (r.step == 1 && r.threeOfAny(1)) {
            r.send(2, -1, -1);
            r.step = 2;
        } else if (r.step == 2 && r.threeOfAny(2) && r.round != 5) {
            r.round++;
            r.step = 0;
        } else {
            return false;
        }
        r.act();
        return true;
    }

    boolean sleep(int s, int i, boolean on) {
        Rep r = rep(s, i);
        if (r == null || r.faulty || r.asleep == on) {
            return false;
        }
        r.asleep = on;
        r.act();
        return true;
    }

    boolean lie(int s, int kind, int round, int q, int to) {
        if (rep(s, 3) == null || !rep(s, 3).faulty || to < 0 || to > 2 || rep(s, to).asleep || kind < 0 || kind > 2) {
            return false;
        }
        if (round < 0 || round > 5 || q < -1 || q >= reqs.size() || q == -1 && kind == 0) {
            return false;
        }
        Rep r = rep(s, to);
        for (Msg m : r.taken) {
            if (m.sender == 3 && m.kind == kind && m.height == r.h() && m.round == round) {
                return false;
            }
        }
        r.taken.add(new Msg(kind, 3, r.h(), round, q, -1));
        r.act();
        return true;
    }

    int messages(int s) {
        return s < 0 || s > 1 ? -1 : sent.get(s).size();
    }

    int message(int s, int k, int what) {
        if (s < 0 || s > 1 || k < 0 || k >= sent.get(s).size() || what < 0 || what > 5) {
            return -2;
        }
        Msg m = sent.get(s).get(k);
        return new int[] {m.kind, m.sender, m.height, m.round, m.request, m.cand}[what];
    }

    int replica(int s, int i, int what) {
        Rep r = rep(s, i);
        if (r == null || what < 0 || what > 6) {
            return -2;
        }
        return new int[] {r.h(), r.round, r.step, r.lock, r.lockRound, r.cand, r.candRound}[what];
    }

    int executed(int s, int i, int k) {
        Rep r = rep(s, i);
        return r == null || k < 0 || k >= r.h() ? -1 : r.executed.get(k);
    }

    int output(int s, int i, int n) {
        Rep r = rep(s, i);
        return r == null || n < 0 || n > 19 || n % 2 != s ? -1 : r.state[n];
    }

    int value(int s, int i) {
        Rep r = rep(s, i);
        if (r == null) {
            return -1;
        }
        int sum = 0;
        for (int n = 0; n < amount.size(); n++) {
            if (r.state[n] == 1 || r.state[n] == 2) {
                sum += amount.get(n);
            }
        }
        return sum;
    }

    int requests() {
        return reqs.size();
    }

    int request(int q, int what) {
        if (q < 0 || q >= reqs.size() || what < 0 || what > 3) {
            return -2;
        }
        Req r = reqs.get(q);
        return new int[] {r.shard, r.kind, r.t, answered(q)}[what];
    }

    int transaction(int t) {
        return t < 0 || t >= txs.size() ? -1 : txs.get(t).state;
    }
}
