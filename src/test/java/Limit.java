/**
 * Runs the main method of a test, and ends the machine with exit code 1 where that takes far too long:
 * a call that never ends must fail, not keep .ci/run waiting.
 */
public final class Limit {
    private static final int SECONDS = 300;

    public static void main(String[] args) throws Exception {
        Thread clock = new Thread(() -> endLate(args[0]));
        clock.setDaemon(true);
        clock.start();
        Class.forName(args[0]).getMethod("main", String[].class).invoke(null, (Object) new String[0]);
    }

    private static void endLate(String test) {
        try {
            Thread.sleep(SECONDS * 1000L);
            System.out.println(test + " does not end");
        } catch (InterruptedException e) {
            System.out.println(test + " was interrupted");
        }
        // No exit by System.exit: it would wait for what the test may have left to be done.
        Runtime.getRuntime().halt(1);
    }
}
