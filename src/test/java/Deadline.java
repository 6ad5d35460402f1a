/** Ends a test in which a call does not end, so that it fails rather than waits. */
final class Deadline {
    private Deadline() {
    }

    static void set(int seconds) {
        Thread tested = Thread.currentThread();
        Thread watch = new Thread(() -> endAfter(seconds, tested));
        watch.setDaemon(true);
        watch.start();
    }

    private static void endAfter(int seconds, Thread tested) {
        try {
            Thread.sleep(1000L * seconds);
        } catch (InterruptedException e) {
            return;
        }
        System.out.println("a call did not end within " + seconds + " seconds:");
        for (StackTraceElement at : tested.getStackTrace()) {
            System.out.println("  " + at);
        }
        System.out.flush();
        Runtime.getRuntime().halt(1);
    }
}
