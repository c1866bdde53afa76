import java.lang.reflect.Method;

/** Runs the test that is named, and fails it when it does not end by itself: a call of the face always ends. */
public final class Watch {
    private static final long LONGEST = 120000;

    public static void main(String[] args) throws Exception {
        Thread watcher = new Thread(() -> failLater(args[0]));
        watcher.setDaemon(true);
        watcher.start();
        Method main = Class.forName(args[0]).getDeclaredMethod("main", String[].class);
        main.setAccessible(true);
        main.invoke(null, (Object) new String[0]);
    }

    private static void failLater(String test) {
        try {
            Thread.sleep(LONGEST);
        } catch (InterruptedException e) {
            return;
        }
        System.out.println(test + " does not end");
        Runtime.getRuntime().halt(1);
    }
}
