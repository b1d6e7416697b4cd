/** Compares answers with those that are due, prints the wrong ones, and ends the test. */
final class Checks {
    interface Call {
        void run();
    }

    private static int made = 0;
    private static int wrong = 0;

    private Checks() {
    }

    static void due(String call, Object got, Object want) {
        made++;
        if (!want.equals(got)) {
            wrong++;
            System.out.println(call + " answered " + got + ", due is " + want);
        }
    }

    /** The name of what a call throws; the very class, because a subclass would be another exception. */
    static String thrown(Call call) {
        try {
            call.run();
            return "nothing";
        } catch (RuntimeException e) {
            return e.getClass().getName();
        }
    }

    static void illegalArgument(String call, Call run) {
        due(call + " throws", thrown(run), "java.lang.IllegalArgumentException");
    }

    static void illegalState(String call, Call run) {
        due(call + " throws", thrown(run), "java.lang.IllegalStateException");
    }

    static void noSuchElement(String call, Call run) {
        due(call + " throws", thrown(run), "java.util.NoSuchElementException");
    }

    static void outOfBounds(String call, Call run) {
        due(call + " throws", thrown(run), "java.lang.IndexOutOfBoundsException");
    }

    static void end() {
        System.out.println(made + " checks, " + wrong + " wrong");
        if (wrong != 0 || made == 0) {
            System.exit(1);
        }
    }
}
