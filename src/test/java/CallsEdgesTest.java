/** "An object is used for at most 512 calls after it has been made; what later calls answer is free." */
public final class CallsEdgesTest {
    private static final Due DUE = new Due("CallsEdgesTest");
    private static final int[] NUMBERS = {Integer.MIN_VALUE, -2, -1, 0, 1, 2, 3, 4, 5, 6, 7, 19, 20, 32, 1000, Integer.MAX_VALUE};

    public static void main(String[] args) {
        theLastCallAnswers();
        manyMessages();
        refusedCallsFillNothing();
        laterCallsEnd();
        DUE.end();
    }

    private static void theLastCallAnswers() {
        DUE.sentence("An object is used for at most 512 calls after it has been made");
        Scene most = Scene.of(0).times(510, "messages(0)").then("sleep(0, 3, true)");
        DUE.is("calls before", most.size(), Scene.CALLS - 1);
        DUE.answer(most, "submit(0, -1, 50)", 0);
        DUE.answer(most, "sleep(0, 3, true)", 0);
        DUE.answer(most, "client()", 0);
        DUE.answer(most, "tick(0, 2)", 1);
        DUE.answer(most, "value(1, 2)", 200);
        Scene toggled = Scene.of(0).times(508, "requests()").then("submit(0, -1, 100)", "flood(0)", "client()");
        DUE.is("calls before", toggled.size(), Scene.CALLS - 1);
        DUE.answer(toggled, "flood(0)", 27);
        DUE.answer(toggled, "request(0, 3)", 1);
        DUE.answer(toggled, "transaction(0)", 1);
    }

    /** At each of eight heights five rounds fail, and the sixth, the last one that there is, does not. */
    private static void manyMessages() {
        DUE.sentence("An object is used for at most 512 calls after it has been made");
        ShardLedger x = new ShardLedger(0);
        for (int h = 0; h < 8; h++) {
            DUE.is("submit", x.submit(0, -1, 100), h);
            for (int r = 0; r < 5; r++) {
                failRound(x, (h + r) % 4);
                DUE.is("height " + h + ", round " + r, x.messages(0), 54 * h + 9 * (r + 1) + 2);
            }
            DUE.is("a proposal, four votes and four seals", x.flood(0), 27);
            DUE.is("height " + h + ", round 5", x.messages(0), 54 * h + 54);
        }
        for (int i = 0; i < 4; i++) {
            DUE.replica("the end", x, 0, i, 8, 0, 0, -1, -1, -1, -1);
        }
        DUE.message("the last one", x, 0, 8 * 54 - 1, 2);
        DUE.is("after the last one", x.message(0, 8 * 54, 0), -2);
        DUE.is("client()", x.client(), 8);
        DUE.is("flood(0)", x.flood(0), 8 * 27);
        DUE.is("messages(0)", x.messages(0), 8 * 54 + 8 * 9);
    }

    /** The leader has proposed and voted already; the next one does so at the end. */
    private static void failRound(ShardLedger x, int leader) {
        for (int i = 1; i < 4; i++) {
            DUE.yes("vote for none", x.tick(0, (leader + i) % 4));
        }
        DUE.is("a proposal, four votes and four seals", x.flood(0), 27);
        for (int i = 1; i < 5; i++) {
            DUE.yes("next round", x.tick(0, (leader + i) % 4));
        }
    }

    private static void refusedCallsFillNothing() {
        DUE.sentence("a refused call changes nothing");
        Scene scene = Scene.of(1).times(70, "submit(0, 0, 0)").times(70, "lie(0, 1, 0, 0, 0)").times(70, "deliver(0, 0, 1)")
            .times(70, "tick(0, 3)").times(70, "sleep(0, 3, true)").times(70, "flood(2)").times(70, "tick(2, 0)");
        DUE.answer(scene, "submit(0, 1, 50)", 0);
        DUE.answer(scene, "lie(0, 1, 0, -1, 0)", 1);
        DUE.answer(scene.then("submit(0, 1, 50)"), "flood(0)", 14);
        DUE.answer(scene.then("submit(0, 1, 50)"), "flood(1)", 27);
    }

    /** Their answers are free, but every one of them ends and none throws. */
    private static void laterCallsEnd() {
        DUE.sentence("what later calls answer is free");
        for (int liars = 0; liars < 4; liars++) {
            ShardLedger x = new ShardLedger(liars);
            for (int n = 0; n < 6000; n++) {
                int a = NUMBERS[n * 7 % NUMBERS.length];
                int b = NUMBERS[n * 11 / 3 % NUMBERS.length];
                int c = NUMBERS[n / 5 % NUMBERS.length];
                anyCall(x, n, n % 3 == 0 ? a : n & 1, b, c);
            }
            DUE.yes("all calls ended", true);
        }
    }

    private static void anyCall(ShardLedger x, int n, int a, int b, int c) {
        switch (n % 17) {
            case 0 -> x.submit(b, c, a);
            case 1 -> x.client();
            case 2 -> x.deliver(a, n % 900, b);
            case 3 -> x.flood(a);
            case 4, 5, 6 -> x.tick(a, n / 17 % 4);
            case 7 -> x.sleep(a, b, c == 0);
            case 8 -> x.lie(a, n / 17 % 3, n / 51 % 6, n % 40 - 1, n % 3);
            case 9 -> x.messages(a);
            case 10 -> x.message(a, b, c);
            case 11 -> x.replica(a, b, c);
            case 12 -> x.executed(a, b, c);
            case 13 -> x.output(a, b, c);
            case 14 -> x.value(a, b);
            case 15 -> x.request(b, c);
            default -> x.transaction(b);
        }
    }
}
