/** Ends a test in which a call does not end, so that it fails rather than waits. */
final class Deadline {
    private Deadline() {
    }

    static void set(int seconds) {
        Thread watch = new Thread(() -> endAfter(seconds));
        watch.setDaemon(true);
        watch.start();
    }

    private static void endAfter(int seconds) {
        try {
            Thread.sleep(1000L * seconds);
        } catch (InterruptedException e) {
            return;
        }
        System.out.println("a call did not end within " + seconds + " seconds");
        Runtime.getRuntime().halt(1);
    }
}
