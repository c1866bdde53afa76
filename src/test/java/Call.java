import java.util.ArrayList;
import java.util.List;

/** One call of the face, written as the document writes it: "submit(0, -1, 30)". A boolean counts 1 or 0. */
final class Call {
    private final String name;
    private final int[] with;

    private Call(String name, int... with) {
        this.name = name;
        this.with = with;
    }

    static Call of(String name, int... with) {
        return new Call(name, with);
    }

    static Call parse(String text) {
        int open = text.indexOf('(');
        String inside = text.substring(open + 1, text.length() - 1).trim();
        String[] parts = inside.isEmpty() ? new String[0] : inside.split(",");
        int[] with = new int[parts.length];
        for (int i = 0; i < parts.length; i++) {
            with[i] = number(parts[i].trim());
        }
        return new Call(text.substring(0, open), with);
    }

    static List<Call> all(String... texts) {
        List<Call> calls = new ArrayList<>();
        for (String text : texts) {
            calls.add(parse(text));
        }
        return calls;
    }

    private static int number(String word) {
        return switch (word) {
            case "true" -> 1;
            case "false" -> 0;
            case "MIN" -> Integer.MIN_VALUE;
            case "MAX" -> Integer.MAX_VALUE;
            default -> Integer.parseInt(word);
        };
    }

    int on(ShardLedger x) {
        return switch (name) {
            case "submit" -> x.submit(with[0], with[1], with[2]);
            case "client" -> x.client();
            case "deliver" -> x.deliver(with[0], with[1], with[2]) ? 1 : 0;
            case "flood" -> x.flood(with[0]);
            case "tick" -> x.tick(with[0], with[1]) ? 1 : 0;
            case "sleep" -> x.sleep(with[0], with[1], with[2] == 1) ? 1 : 0;
            case "lie" -> x.lie(with[0], with[1], with[2], with[3], with[4]) ? 1 : 0;
            case "messages" -> x.messages(with[0]);
            case "message" -> x.message(with[0], with[1], with[2]);
            case "replica" -> x.replica(with[0], with[1], with[2]);
            case "executed" -> x.executed(with[0], with[1], with[2]);
            case "output" -> x.output(with[0], with[1], with[2]);
            case "value" -> x.value(with[0], with[1]);
            case "requests" -> x.requests();
            case "request" -> x.request(with[0], with[1]);
            case "transaction" -> x.transaction(with[0]);
            default -> throw new IllegalArgumentException(name);
        };
    }

    int on(Model x) {
        return switch (name) {
            case "submit" -> x.submit(with[0], with[1], with[2]);
            case "client" -> x.client();
            case "deliver" -> x.deliver(with[0], with[1], with[2]) ? 1 : 0;
            case "flood" -> x.flood(with[0]);
            case "tick" -> x.tick(with[0], with[1]) ? 1 : 0;
            case "sleep" -> x.sleep(with[0], with[1], with[2] == 1) ? 1 : 0;
            case "lie" -> x.lie(with[0], with[1], with[2], with[3], with[4]) ? 1 : 0;
            case "messages" -> x.messages(with[0]);
            case "message" -> x.message(with[0], with[1], with[2]);
            case "replica" -> x.replica(with[0], with[1], with[2]);
            case "executed" -> x.executed(with[0], with[1], with[2]);
            case "output" -> x.output(with[0], with[1], with[2]);
            case "value" -> x.value(with[0], with[1]);
            case "requests" -> x.requests();
            case "request" -> x.request(with[0], with[1]);
            case "transaction" -> x.transaction(with[0]);
            default -> throw new IllegalArgumentException(name);
        };
    }

    @Override
    public String toString() {
        StringBuilder text = new StringBuilder(name).append('(');
        for (int i = 0; i < with.length; i++) {
            text.append(i == 0 ? "" : ", ").append(with[i]);
        }
        return text.append(')').toString();
    }
}
