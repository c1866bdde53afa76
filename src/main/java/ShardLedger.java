/**
 * A ledger in two shards of four replicas each, one of which may lie. The replicas of a shard agree on one request
 * after the other; a client does transactions that touch both shards in both of them or in neither.
 */
public final class ShardLedger {
    public static final int BAD = -1;
    public static final int FULL = -2;

    private static final int NONE = -1;
    private static final int NOT_THERE = -2;

    private static final int SHARDS = 2;
    private static final int REPLICAS = 4;
    private static final int LIAR = 3;
    private static final int QUORUM = 3;
    private static final int SOME_HONEST = 2;
    private static final int ROUNDS = 6;

    private static final int TRANSACTIONS = 8;
    private static final int FIRST_OUTPUTS = 4;
    private static final int FIRST_AMOUNT = 100;
    private static final int OUTPUTS = FIRST_OUTPUTS + 2 * TRANSACTIONS;

    // A transaction has at most a LOCK and then either a COMMIT or an ABORT in each shard.
    private static final int REQUESTS_OF_SHARD = 2 * TRANSACTIONS;
    private static final int REQUESTS = SHARDS * REQUESTS_OF_SHARD;

    // At each height and round every replica votes and seals at most once, and one of them proposes at most once.
    private static final int MESSAGES = (REQUESTS_OF_SHARD + 1) * ROUNDS * (2 * REPLICAS + 1);

    // Far above what any run can need: it only makes the end of a loop plain.
    private static final int FAR = 1000000;

    private static final int LOCK = 0;
    private static final int COMMIT = 1;
    private static final int ABORT = 2;

    private static final int UNANSWERED = 0;
    private static final int DONE = 1;
    private static final int REFUSED = 2;

    private static final int PROPOSAL = 0;
    private static final int VOTE = 1;
    private static final int SEAL = 2;
    private static final int MESSAGE_KINDS = 3;

    private static final int UNSPENT = 1;
    private static final int LOCKED = 2;
    private static final int SPENT = 3;

    private static final int LOCKING = 0;
    private static final int COMMITTING = 1;
    private static final int ABORTING = 2;
    private static final int COMMITTED = 3;
    private static final int ABORTED = 4;

    private final TransactionBook transactionBook;
    private final RequestBook requestBook;
    private final Shard[] shards;

    public ShardLedger(int liars) {
        TransactionBook transactions = new TransactionBook();
        RequestBook requests = new RequestBook();
        shards = new Shard[SHARDS];
        for (int s = 0; s < SHARDS; s++) {
            shards[s] = new Shard(s, (liars >> s & 1) == 1, requests, transactions);
        }
        transactionBook = transactions;
        requestBook = requests;
    }

    public int submit(int first, int second, int a) {
        if (!transactionBook.isProper(first, second, a)) {
            return BAD;
        }
        if (transactionBook.isFull()) {
            return FULL;
        }
        int t = transactionBook.add(first, second, a);
        for (int s = 0; s < SHARDS; s++) {
            if (transactionBook.hasInputIn(t, s)) {
                requestBook.make(s, LOCK, t);
            }
        }
        letAllAct();
        return t;
    }

    public int client() {
        int before = requestBook.count();
        for (int t = 0; t < transactionBook.count(); t++) {
            lookAt(t);
        }
        letAllAct();
        return requestBook.count() - before;
    }

    public boolean deliver(int shard, int message, int replica) {
        Shard home = shardAt(shard);
        if (home == null) {
            return false;
        }
        Replica taker = home.replicaAt(replica);
        return taker != null && taker.accept(home.log.messageAt(message));
    }

    public int flood(int shard) {
        Shard home = shardAt(shard);
        if (home == null) {
            return BAD;
        }
        int total = 0;
        int before = -1;
        for (int pass = 0; total != before && pass < FAR; pass++) {
            before = total;
            // The log is asked anew for each message, for it grows while messages are delivered.
            for (int k = 0; k < MESSAGES && home.log.messageAt(k) != null; k++) {
                for (int i = 0; i < REPLICAS; i++) {
                    if (home.replicas[i].accept(home.log.messageAt(k))) {
                        total++;
                    }
                }
            }
        }
        return total;
    }

    public boolean tick(int shard, int replica) {
        Replica one = replicaAt(shard, replica);
        return one != null && one.losePatience();
    }

    public boolean sleep(int shard, int replica, boolean on) {
        Replica one = replicaAt(shard, replica);
        return one != null && one.turnSleep(on);
    }

    public boolean lie(int shard, int kind, int round, int request, int to) {
        Replica liar = replicaAt(shard, LIAR);
        Replica hearer = replicaAt(shard, to);
        if (liar == null || !liar.faulty || hearer == null) {
            return false;
        }
        if (kind < 0 || kind >= MESSAGE_KINDS || round < 0 || round >= ROUNDS) {
            return false;
        }
        boolean sayable = request == NONE ? kind != PROPOSAL : requestBook.has(request);
        return sayable && hearer.believe(kind, round, request);
    }

    public int messages(int shard) {
        Shard home = shardAt(shard);
        return home == null ? BAD : home.log.count();
    }

    public int message(int shard, int k, int what) {
        Shard home = shardAt(shard);
        if (home == null) {
            return NOT_THERE;
        }
        Message found = home.log.messageAt(k);
        return found == null ? NOT_THERE : found.tell(what);
    }

    public int replica(int shard, int replica, int what) {
        Replica one = replicaAt(shard, replica);
        return one == null ? NOT_THERE : one.tell(what);
    }

    public int executed(int shard, int replica, int k) {
        Replica one = replicaAt(shard, replica);
        return one == null ? NONE : one.executedAt(k);
    }

    public int output(int shard, int replica, int output) {
        Replica one = replicaAt(shard, replica);
        return one == null ? BAD : one.holdings.stateOf(output);
    }

    public int value(int shard, int replica) {
        Replica one = replicaAt(shard, replica);
        return one == null ? BAD : one.holdings.worth();
    }

    public int requests() {
        return requestBook.count();
    }

    public int request(int request, int what) {
        return requestBook.tell(request, what);
    }

    public int transaction(int transaction) {
        return transactionBook.has(transaction) ? transactionBook.stateOf(transaction) : BAD;
    }

    private Shard shardAt(int shard) {
        return shard >= 0 && shard < SHARDS ? shards[shard] : null;
    }

    private Replica replicaAt(int shard, int replica) {
        Shard home = shardAt(shard);
        return home == null ? null : home.replicaAt(replica);
    }

    private void letAllAct() {
        for (int s = 0; s < SHARDS; s++) {
            for (int i = 0; i < REPLICAS; i++) {
                shards[s].replicas[i].act();
            }
        }
    }

    private void lookAt(int t) {
        int state = transactionBook.stateOf(t);
        if (state == LOCKING) {
            decide(t, requestBook.outcome(LOCK, t));
        } else if (state == COMMITTING && requestBook.outcome(COMMIT, t) != UNANSWERED) {
            transactionBook.setState(t, COMMITTED);
        } else if (state == ABORTING && requestBook.outcome(ABORT, t) != UNANSWERED) {
            transactionBook.setState(t, ABORTED);
        }
    }

    private void decide(int t, int outcome) {
        if (outcome == UNANSWERED) {
            return;
        }
        boolean commits = outcome == DONE;
        for (int s = 0; s < SHARDS; s++) {
            if (transactionBook.hasInputIn(t, s) || commits && transactionBook.hasOutputIn(t, s)) {
                requestBook.make(s, commits ? COMMIT : ABORT, t);
            }
        }
        transactionBook.setState(t, commits ? COMMITTING : ABORTING);
    }

    /** The transactions, the amounts of all outputs, and the client's state of each transaction. */
    private static final class TransactionBook {
        private final int[] firsts = new int[TRANSACTIONS];
        private final int[] seconds = new int[TRANSACTIONS];
        private final int[] states = new int[TRANSACTIONS];
        private final int[] amounts = new int[OUTPUTS];
        private int count;

        TransactionBook() {
            for (int n = 0; n < FIRST_OUTPUTS; n++) {
                amounts[n] = FIRST_AMOUNT;
            }
        }

        int count() {
            return count;
        }

        boolean isFull() {
            return count >= TRANSACTIONS;
        }

        boolean has(int t) {
            return t >= 0 && t < count;
        }

        boolean isProper(int first, int second, int a) {
            if (!isOutput(first) || first == second || second != NONE && !isOutput(second)) {
                return false;
            }
            return a >= 0 && a <= sum(first, second);
        }

        int add(int first, int second, int a) {
            if (isFull()) {
                return FULL;
            }
            int t = count;
            firsts[t] = first;
            seconds[t] = second;
            states[t] = LOCKING;
            amounts[evenOutput(t)] = a;
            amounts[evenOutput(t) + 1] = sum(first, second) - a;
            count++;
            return t;
        }

        int stateOf(int t) {
            return has(t) ? states[t] : BAD;
        }

        void setState(int t, int state) {
            if (has(t)) {
                states[t] = state;
            }
        }

        int amountOf(int n) {
            return n >= 0 && n < OUTPUTS ? amounts[n] : 0;
        }

        boolean isInput(int t, int n) {
            return t >= 0 && t < count && n != NONE && (firsts[t] == n || seconds[t] == n);
        }

        /** An output of amount 0 is none that a COMMIT makes. */
        boolean isMade(int t, int n) {
            return n >= FIRST_OUTPUTS && n < OUTPUTS && (n - FIRST_OUTPUTS) / 2 == t && amounts[n] > 0;
        }

        boolean hasInputIn(int t, int shard) {
            return has(t) && (firsts[t] % SHARDS == shard || seconds[t] != NONE && seconds[t] % SHARDS == shard);
        }

        boolean hasOutputIn(int t, int shard) {
            return amountOf(evenOutput(t) + shard) > 0;
        }

        private boolean isOutput(int n) {
            return n >= 0 && n < evenOutput(count);
        }

        private int sum(int first, int second) {
            return amountOf(first) + amountOf(second);
        }

        private static int evenOutput(int t) {
            return FIRST_OUTPUTS + 2 * t;
        }
    }

    /** All requests of both shards, and how they were answered. */
    private static final class RequestBook {
        private static final int ANSWERING = 2;
        private final int[] shards = new int[REQUESTS];
        private final int[] kinds = new int[REQUESTS];
        private final int[] transactions = new int[REQUESTS];
        private final int[] executions = new int[REQUESTS];
        private final int[] results = new int[REQUESTS];
        private int count;

        int count() {
            return count;
        }

        boolean has(int q) {
            return q >= 0 && q < count;
        }

        void make(int shard, int kind, int t) {
            if (count < REQUESTS) {
                shards[count] = shard;
                kinds[count] = kind;
                transactions[count] = t;
                count++;
            }
        }

        boolean isFor(int q, int shard) {
            return q >= 0 && q < count && shards[q] == shard;
        }

        int kindOf(int q) {
            return has(q) ? kinds[q] : NONE;
        }

        int transactionOf(int q) {
            return has(q) ? transactions[q] : NONE;
        }

        void noteExecution(int q, int result) {
            if (has(q)) {
                executions[q]++;
                results[q] = result;
            }
        }

        /** 0 while one of a transaction's requests of a kind is not answered; then the highest result among them. */
        int outcome(int kind, int t) {
            int highest = UNANSWERED;
            for (int q = 0; q < count; q++) {
                if (kinds[q] == kind && transactions[q] == t) {
                    if (answer(q) == UNANSWERED) {
                        return UNANSWERED;
                    }
                    highest = Math.max(highest, answer(q));
                }
            }
            return highest;
        }

        int tell(int q, int what) {
            if (!has(q)) {
                return NOT_THERE;
            }
            switch (what) {
                case 0: return shards[q];
                case 1: return kinds[q];
                case 2: return transactions[q];
                case 3: return answer(q);
                default: return NOT_THERE;
            }
        }

        private int answer(int q) {
            return executions[q] >= ANSWERING ? results[q] : UNANSWERED;
        }
    }

    /** One sent message, or one lie. */
    private static final class Message {
        final int kind;
        final int sender;
        final int height;
        final int round;
        final int request;
        final int candidateRound;
        private int takers;

        Message(int kind, int sender, int height, int round, int request, int candidateRound) {
            this.kind = kind;
            this.sender = sender;
            this.height = height;
            this.round = round;
            this.request = request;
            this.candidateRound = candidateRound;
            takers = 1 << sender;
        }

        boolean isTakenBy(int replica) {
            return (takers >> replica & 1) == 1;
        }

        void setTakenBy(int replica) {
            takers |= 1 << replica;
        }

        int tell(int what) {
            switch (what) {
                case 0: return kind;
                case 1: return sender;
                case 2: return height;
                case 3: return round;
                case 4: return request;
                case 5: return candidateRound;
                default: return NOT_THERE;
            }
        }
    }

    /** The messages of a shard, as they were sent. */
    private static final class MessageLog {
        private final Message[] sent = new Message[MESSAGES];
        private int count;

        int count() {
            return count;
        }

        void add(Message message) {
            if (count < MESSAGES) {
                sent[count] = message;
                count++;
            }
        }

        Message messageAt(int k) {
            return k >= 0 && k < count ? sent[k] : null;
        }
    }

    /**
     * What a replica has taken of its present height. Messages of another height never count again, so that the room
     * for one height is enough; and nobody, not even the liar, gets a second message of a kind and round into it.
     */
    private static final class Inbox {
        private final Message[] slots = new Message[MESSAGE_KINDS * ROUNDS * REPLICAS];

        void put(Message message) {
            int at = slot(message.kind, message.round, message.sender);
            if (at >= 0 && at < slots.length) {
                slots[at] = message;
            }
        }

        Message find(int kind, int round, int sender) {
            int at = slot(kind, round, sender);
            return at >= 0 && at < slots.length ? slots[at] : null;
        }

        void clear() {
            for (int i = 0; i < slots.length; i++) {
                slots[i] = null;
            }
        }

        boolean hasQuorumFor(int kind, int round, int request) {
            int found = 0;
            for (int sender = 0; sender < REPLICAS; sender++) {
                Message message = find(kind, round, sender);
                if (message != null && message.request == request) {
                    found++;
                }
            }
            return found >= QUORUM;
        }

        boolean hasQuorumOfAny(int kind, int round) {
            int found = 0;
            for (int sender = 0; sender < REPLICAS; sender++) {
                if (find(kind, round, sender) != null) {
                    found++;
                }
            }
            return found >= QUORUM;
        }

        /** Senders of anything that counts: a proposal does so only when it is the leader's. */
        int countSenders(int round, int leader) {
            int found = 0;
            for (int sender = 0; sender < REPLICAS; sender++) {
                boolean voted = find(VOTE, round, sender) != null || find(SEAL, round, sender) != null;
                if (voted || sender == leader && find(PROPOSAL, round, sender) != null) {
                    found++;
                }
            }
            return found;
        }

        private static int slot(int kind, int round, int sender) {
            return (kind * ROUNDS + round) * REPLICAS + sender;
        }
    }

    /** A request with a round, or none: what a replica has as its lock or its candidate. */
    private static final class Choice {
        int request = NONE;
        int round = NONE;

        void set(int newRequest, int newRound) {
            request = newRequest;
            round = newRound;
        }

        void clear() {
            set(NONE, NONE);
        }
    }

    /** What a replica keeps of the outputs of its shard. */
    private static final class Holdings {
        private final int shard;
        private final TransactionBook transactions;
        private final int[] states = new int[OUTPUTS];
        private final int[] lockers = new int[OUTPUTS];

        Holdings(int shard, TransactionBook transactions) {
            this.shard = shard;
            this.transactions = transactions;
            for (int n = shard; n < FIRST_OUTPUTS; n += SHARDS) {
                states[n] = UNSPENT;
            }
        }

        int stateOf(int n) {
            return n >= 0 && n < OUTPUTS && n % SHARDS == shard ? states[n] : BAD;
        }

        int worth() {
            int sum = 0;
            for (int n = shard; n < OUTPUTS; n += SHARDS) {
                if (states[n] == UNSPENT || states[n] == LOCKED) {
                    sum += transactions.amountOf(n);
                }
            }
            return sum;
        }

        int carryOut(int kind, int t) {
            switch (kind) {
                case LOCK: return lockInputs(t);
                case COMMIT: return spendInputs(t);
                default: return freeInputs(t);
            }
        }

        private int lockInputs(int t) {
            for (int n = shard; n < OUTPUTS; n += SHARDS) {
                if (transactions.isInput(t, n) && states[n] != UNSPENT) {
                    return REFUSED;
                }
            }
            for (int n = shard; n < OUTPUTS; n += SHARDS) {
                if (transactions.isInput(t, n)) {
                    states[n] = LOCKED;
                    lockers[n] = t;
                }
            }
            return DONE;
        }

        private int spendInputs(int t) {
            for (int n = shard; n < OUTPUTS; n += SHARDS) {
                if (transactions.isInput(t, n)) {
                    states[n] = SPENT;
                } else if (transactions.isMade(t, n)) {
                    states[n] = UNSPENT;
                }
            }
            return DONE;
        }

        private int freeInputs(int t) {
            for (int n = shard; n < OUTPUTS; n += SHARDS) {
                if (transactions.isInput(t, n) && states[n] == LOCKED && lockers[n] == t) {
                    states[n] = UNSPENT;
                }
            }
            return DONE;
        }
    }

    /** The replicas of a shard and the messages among them. */
    private static final class Shard {
        final MessageLog log;
        final Replica[] replicas;

        Shard(int number, boolean hasLiar, RequestBook requests, TransactionBook transactions) {
            MessageLog common = new MessageLog();
            replicas = new Replica[REPLICAS];
            for (int i = 0; i < REPLICAS; i++) {
                Holdings holdings = new Holdings(number, transactions);
                replicas[i] = new Replica(number, i, hasLiar && i == LIAR, requests, common, holdings);
            }
            log = common;
        }

        Replica replicaAt(int i) {
            return i >= 0 && i < REPLICAS ? replicas[i] : null;
        }
    }

    /** One replica. Each of the six rules by which it acts is a method that tells whether it was done. */
    private static final class Replica {
        private final int shard;
        private final int number;
        final boolean faulty;
        private final RequestBook requests;
        private final MessageLog log;
        final Holdings holdings;
        private final Inbox inbox = new Inbox();
        private final Choice lock = new Choice();
        private final Choice candidate = new Choice();
        private final int[] history = new int[REQUESTS_OF_SHARD];
        private boolean asleep;
        private int height;
        private int round;
        private int step;

        Replica(int shard, int number, boolean faulty, RequestBook requests, MessageLog log, Holdings holdings) {
            this.shard = shard;
            this.number = number;
            this.faulty = faulty;
            this.requests = requests;
            this.log = log;
            this.holdings = holdings;
        }

        boolean accept(Message message) {
            if (message == null || isIdle() || message.isTakenBy(number) || height < message.height) {
                return false;
            }
            message.setTakenBy(number);
            if (message.height == height) {
                inbox.put(message);
            }
            act();
            return true;
        }

        boolean believe(int kind, int lieRound, int request) {
            if (isIdle() || inbox.find(kind, lieRound, LIAR) != null) {
                return false;
            }
            inbox.put(new Message(kind, LIAR, height, lieRound, request, NONE));
            act();
            return true;
        }

        boolean losePatience() {
            if (isIdle()) {
                return false;
            }
            if (step == 0) {
                sendVote(NONE);
            } else if (step == 1 && inbox.hasQuorumOfAny(VOTE, round)) {
                sendSeal(NONE);
            } else if (step == 2 && inbox.hasQuorumOfAny(SEAL, round) && round < ROUNDS - 1) {
                enterRound(round + 1);
            } else {
                return false;
            }
            act();
            return true;
        }

        boolean turnSleep(boolean on) {
            if (faulty || asleep == on) {
                return false;
            }
            asleep = on;
            act();
            return true;
        }

        void act() {
            boolean acting = !isIdle();
            for (int n = 0; acting && n < FAR; n++) {
                acting = executeSealed() || joinHigherRound() || propose() || vote() || chooseCandidate() || sealNone();
            }
        }

        int tell(int what) {
            switch (what) {
                case 0: return height;
                case 1: return round;
                case 2: return step;
                case 3: return lock.request;
                case 4: return lock.round;
                case 5: return candidate.request;
                case 6: return candidate.round;
                default: return NOT_THERE;
            }
        }

        int executedAt(int k) {
            return k >= 0 && k < height && k < history.length ? history[k] : NONE;
        }

        private boolean isIdle() {
            return faulty || asleep;
        }

        private boolean executeSealed() {
            int q = sealedRequest();
            if (q == NONE || height >= history.length) {
                return false;
            }
            requests.noteExecution(q, holdings.carryOut(requests.kindOf(q), requests.transactionOf(q)));
            history[height] = q;
            height++;
            enterRound(0);
            lock.clear();
            candidate.clear();
            inbox.clear();
            return true;
        }

        private int sealedRequest() {
            for (int r = 0; r < ROUNDS; r++) {
                Message proposal = inbox.find(PROPOSAL, r, leaderOf(r));
                if (proposal != null && isGood(proposal.request) && inbox.hasQuorumFor(SEAL, r, proposal.request)) {
                    return proposal.request;
                }
            }
            return NONE;
        }

        private boolean joinHigherRound() {
            for (int r = round + 1; r < ROUNDS; r++) {
                if (inbox.countSenders(r, leaderOf(r)) >= SOME_HONEST) {
                    enterRound(r);
                    return true;
                }
            }
            return false;
        }

        private boolean propose() {
            if (step != 0 || leaderOf(round) != number || inbox.find(PROPOSAL, round, number) != null) {
                return false;
            }
            int q = candidate.request == NONE ? firstGood() : candidate.request;
            if (q == NONE) {
                return false;
            }
            send(PROPOSAL, q, candidate.round);
            return true;
        }

        private boolean vote() {
            if (step != 0) {
                return false;
            }
            Message proposal = inbox.find(PROPOSAL, round, leaderOf(round));
            if (proposal == null || !isBacked(proposal)) {
                return false;
            }
            sendVote(isWelcome(proposal) ? proposal.request : NONE);
            return true;
        }

        private boolean chooseCandidate() {
            if (step == 0 || candidate.round == round) {
                return false;
            }
            Message proposal = inbox.find(PROPOSAL, round, leaderOf(round));
            if (proposal == null || !isGood(proposal.request)) {
                return false;
            }
            int q = proposal.request;
            if (!inbox.hasQuorumFor(VOTE, round, q)) {
                return false;
            }
            candidate.set(q, round);
            if (step == 1) {
                lock.set(q, round);
                sendSeal(q);
            }
            return true;
        }

        private boolean sealNone() {
            if (step != 1 || !inbox.hasQuorumFor(VOTE, round, NONE)) {
                return false;
            }
            sendSeal(NONE);
            return true;
        }

        /** Whether the votes that the proposal's candidate rests on are here, so that it can be judged at all. */
        private boolean isBacked(Message proposal) {
            int c = proposal.candidateRound;
            return c == NONE || c >= round || inbox.hasQuorumFor(VOTE, c, proposal.request);
        }

        private boolean isWelcome(Message proposal) {
            int c = proposal.candidateRound;
            if (!isGood(proposal.request) || c >= round) {
                return false;
            }
            return lock.request == NONE || lock.request == proposal.request || c != NONE && lock.round <= c;
        }

        private boolean isGood(int q) {
            if (!requests.isFor(q, shard)) {
                return false;
            }
            for (int k = 0; k < height && k < history.length; k++) {
                if (history[k] == q) {
                    return false;
                }
            }
            return true;
        }

        private int firstGood() {
            for (int q = 0; q < requests.count(); q++) {
                if (isGood(q)) {
                    return q;
                }
            }
            return NONE;
        }

        private int leaderOf(int someRound) {
            return (height + someRound) % REPLICAS;
        }

        private void enterRound(int newRound) {
            round = newRound;
            step = 0;
        }

        private void sendVote(int request) {
            send(VOTE, request, NONE);
            step = 1;
        }

        private void sendSeal(int request) {
            send(SEAL, request, NONE);
            step = 2;
        }

        private void send(int kind, int request, int candidateRound) {
            Message message = new Message(kind, number, height, round, request, candidateRound);
            log.add(message);
            inbox.put(message);
        }
    }
}
