import java.lang.reflect.Method;

/** Runs the main method of a test, and fails it if a call in it never ends. */
public final class Watch {
    private static final long MOST_MILLISECONDS = 180_000;

    private Watch() {
    }

    public static void main(String[] args) throws ReflectiveOperationException {
        String test = args[0];
        Thread watcher = new Thread(() -> stopLater(test));
        watcher.setDaemon(true);
        watcher.start();
        Method main = Class.forName(test).getMethod("main", String[].class);
        main.setAccessible(true);
        main.invoke(null, (Object) new String[0]);
    }

    private static void stopLater(String test) {
        try {
            Thread.sleep(MOST_MILLISECONDS);
        } catch (InterruptedException e) {
            return;
        }
        System.out.println(test + " does not end");
        Runtime.getRuntime().halt(1);
    }
}
