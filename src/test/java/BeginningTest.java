/** Promise 1, and what every question answers at the beginning. */
public final class BeginningTest {
    private static final Due DUE = new Due("BeginningTest");

    public static void main(String[] args) {
        for (int liars : new int[] {0, 1, 2, 3, 4, 8, -1, Integer.MIN_VALUE}) {
            nothingYet(liars);
        }
        bitsSayWhoLies();
        DUE.end();
    }

    private static void nothingYet(int liars) {
        ShardLedger x = new ShardLedger(liars);
        DUE.is("requests()", x.requests(), 0);
        DUE.is("transaction(0)", x.transaction(0), -1);
        DUE.is("request(0, 0)", x.request(0, 0), -2);
        for (int s = 0; s < 2; s++) {
            DUE.is("messages(" + s + ")", x.messages(s), 0);
            for (int i = 0; i < 4; i++) {
                DUE.replica("beginning", x, s, i, 0, 0, 0, -1, -1, -1, -1);
                DUE.is("value", x.value(s, i), 200);
                DUE.is("executed", x.executed(s, i, 0), -1);
                for (int n = 0; n < 20; n++) {
                    DUE.is("output " + s + " " + i + " " + n, x.output(s, i, n), n % 2 != s ? -1 : n < 4 ? 1 : 0);
                }
            }
        }
    }

    /** A replica that is faulty has no patience to lose, and one that is not cannot lie. */
    private static void bitsSayWhoLies() {
        for (int liars = -2; liars < 8; liars++) {
            for (int s = 0; s < 2; s++) {
                boolean faulty = (liars >> s & 1) == 1;
                String who = "liars " + liars + ", shard " + s;
                for (int i = 0; i < 3; i++) {
                    DUE.yes(who + ": tick of " + i, new ShardLedger(liars).tick(s, i));
                }
                DUE.is(who + ": tick of 3", new ShardLedger(liars).tick(s, 3) ? 1 : 0, faulty ? 0 : 1);
                DUE.is(who + ": lie", new ShardLedger(liars).lie(s, 1, 0, -1, 0) ? 1 : 0, faulty ? 1 : 0);
            }
        }
    }
}
