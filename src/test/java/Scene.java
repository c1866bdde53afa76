import java.util.ArrayList;
import java.util.List;

/**
 * A run of calls on a new object that can be made again and again: so a scene can be asked any number of questions,
 * and no object gets more than the 512 calls for which the document promises something.
 */
final class Scene {
    static final int CALLS = 512;
    private final int liars;
    private final List<Call> calls;
    private List<Call> questions;
    private int[] picture;
    private List<List<Call>> futures;

    private Scene(int liars, List<Call> calls) {
        this.liars = liars;
        this.calls = List.copyOf(calls);
    }

    static Scene of(int liars, String... calls) {
        return new Scene(liars, Call.all(calls));
    }

    Scene then(String... more) {
        return then(Call.all(more));
    }

    Scene then(List<Call> more) {
        List<Call> all = new ArrayList<>(calls);
        all.addAll(more);
        return new Scene(liars, all);
    }

    /** One round onward: the replicas from 0 to last vote and seal none, as far as that is left to do. */
    Scene failRound(int shard, int last) {
        List<Call> more = new ArrayList<>();
        for (int i = 0; i <= last; i++) {
            more.add(Call.of("tick", shard, i));
        }
        more.add(Call.of("flood", shard));
        for (int i = 0; i <= last; i++) {
            more.add(Call.of("tick", shard, i));
        }
        return then(more);
    }

    Scene toRound(int shard, int last, int round) {
        Scene scene = this;
        for (int r = 0; r < round; r++) {
            scene = scene.failRound(shard, last);
        }
        return scene;
    }

    /** The same one again and again. */
    Scene times(int n, String call) {
        Scene scene = this;
        for (int i = 0; i < n; i++) {
            scene = scene.then(call);
        }
        return scene;
    }

    int size() {
        return calls.size();
    }

    ShardLedger play() {
        ShardLedger x = new ShardLedger(liars);
        for (Call call : calls) {
            call.on(x);
        }
        return x;
    }

    int answer(Call call) {
        return call.on(play());
    }

    /** Every question about what there is, and about the first thing of each sort that is not there. */
    List<Call> questions() {
        if (questions == null) {
            questions = new ArrayList<>();
            ShardLedger x = play();
            for (int s = 0; s < 2; s++) {
                questions.add(Call.of("messages", s));
                addAll("message", s, x.messages(s), 5);
                for (int i = 0; i < 4; i++) {
                    askReplica(x, s, i);
                }
            }
            questions.add(Call.of("requests"));
            for (int q = 0; q <= x.requests(); q++) {
                for (int what = 0; what < 4; what++) {
                    questions.add(Call.of("request", q, what));
                }
            }
            for (int t = 0; t <= 8; t++) {
                questions.add(Call.of("transaction", t));
            }
        }
        return questions;
    }

    private void addAll(String name, int shard, int last, int lastWhat) {
        for (int k = 0; k <= last; k++) {
            for (int what = 0; what <= lastWhat; what++) {
                questions.add(Call.of(name, shard, k, what));
            }
        }
    }

    private void askReplica(ShardLedger x, int s, int i) {
        for (int what = 0; what <= 6; what++) {
            questions.add(Call.of("replica", s, i, what));
        }
        for (int k = 0; k <= x.replica(s, i, 0); k++) {
            questions.add(Call.of("executed", s, i, k));
        }
        for (int n = 0; n < 20; n++) {
            questions.add(Call.of("output", s, i, n));
        }
        questions.add(Call.of("value", s, i));
    }

    /** The answers to questions, asked of as many objects as they need. */
    int[] ask(List<Call> asked) {
        int[] answers = new int[asked.size()];
        ShardLedger x = null;
        int left = 0;
        for (int n = 0; n < answers.length; n++) {
            if (left == 0) {
                x = play();
                left = CALLS - size();
            }
            answers[n] = asked.get(n).on(x);
            left--;
        }
        return answers;
    }

    /** The answers to all questions(). */
    int[] picture() {
        if (picture == null) {
            picture = ask(questions());
        }
        return picture;
    }

    /**
     * What no question tells, shows in the answers of later calls: which messages were taken, who sleeps, which lies
     * were told.
     */
    List<List<Call>> futures() {
        if (futures == null) {
            futures = new ArrayList<>();
            futures.add(followed(lies()));
            futures.add(followed(sleeps(), settling(), ticks(), settling()));
            futures.add(followed(ticks(), settling(), ticks(), settling()));
            futures.add(followed(settling(), ticks(), settling()));
            futures.add(followed(deliveries()));
        }
        return futures;
    }

    /** The answers to calls that are made one after the other, of one object; as many as it may get. */
    int[] live(List<Call> future) {
        ShardLedger x = play();
        int[] answers = new int[Math.min(future.size(), CALLS - size())];
        for (int n = 0; n < answers.length; n++) {
            answers[n] = future.get(n).on(x);
        }
        return answers;
    }

    @SafeVarargs
    private static List<Call> followed(List<Call>... parts) {
        List<Call> all = new ArrayList<>();
        for (List<Call> part : parts) {
            all.addAll(part);
        }
        for (int s = 0; s < 2; s++) {
            all.add(Call.of("messages", s));
            for (int n = 0; n < 28; n++) {
                all.add(Call.of("replica", s, n % 4, n / 4));
            }
        }
        return all;
    }

    private static List<Call> lies() {
        List<Call> list = new ArrayList<>();
        for (int n = 0; n < 108; n++) {
            int kind = n / 36;
            list.add(Call.of("lie", n % 2, kind, n / 2 % 6, kind == 0 ? 0 : -1, n / 12 % 3));
        }
        return list;
    }

    private static List<Call> sleeps() {
        List<Call> list = new ArrayList<>();
        for (int n = 0; n < 16; n++) {
            list.add(Call.of("sleep", n / 8, n / 2 % 4, 1 - n % 2));
        }
        return list;
    }

    private static List<Call> ticks() {
        List<Call> list = new ArrayList<>();
        for (int n = 0; n < 8; n++) {
            list.add(Call.of("tick", n / 4, n % 4));
        }
        return list;
    }

    private static List<Call> settling() {
        return Call.all("flood(0)", "flood(1)", "client()", "flood(0)", "flood(1)", "client()");
    }

    private List<Call> deliveries() {
        ShardLedger x = play();
        List<Call> list = new ArrayList<>();
        for (int s = 0; s < 2; s++) {
            for (int n = 0; n < 4 * x.messages(s); n++) {
                list.add(Call.of("deliver", s, n / 4, n % 4));
            }
        }
        return list;
    }
}
