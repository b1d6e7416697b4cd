import java.util.function.Consumer;
import java.util.function.Supplier;

/** Compares answers with those that are due, prints the wrong ones, and ends the test. */
final class Checks {
    static final String NOTHING = "nothing";
    static final String ARGUMENT = "java.lang.IllegalArgumentException";
    static final String STATE = "java.lang.IllegalStateException";
    static final String ELEMENT = "java.util.NoSuchElementException";
    static final String BOUNDS = "java.lang.IndexOutOfBoundsException";

    interface Call {
        void run();
    }

    private static String about = "";
    private static int made = 0;
    private static int wrong = 0;

    private Checks() {
    }

    /** A test of its own for a sentence of the document: what goes wrong in it hinders no other. */
    static void test(String sentence, Call body) {
        about = sentence + ": ";
        int before = made;
        try {
            body.run();
        } catch (RuntimeException e) {
            due("the test throws", e.toString(), NOTHING);
        }
        due("the test checks something", made > before, true);
        about = "";
    }

    static void due(String call, Object got, Object want) {
        made++;
        if (!want.equals(got)) {
            wrong++;
            System.out.println(about + call + " answered " + got + ", due is " + want);
        }
    }

    /** The name of what a call throws; the very class, because a subclass would be another exception. */
    static String thrown(Call call) {
        try {
            call.run();
            return NOTHING;
        } catch (RuntimeException e) {
            return e.getClass().getName();
        }
    }

    static void illegalArgument(String call, Call run) {
        due(call + " throws", thrown(run), ARGUMENT);
    }

    static void illegalState(String call, Call run) {
        due(call + " throws", thrown(run), STATE);
    }

    static void noSuchElement(String call, Call run) {
        due(call + " throws", thrown(run), ELEMENT);
    }

    static void outOfBounds(String call, Call run) {
        due(call + " throws", thrown(run), BOUNDS);
    }

    /** The call throws, and leaves the index like one on which it was never made. */
    static void refused(String call, String exception, Supplier<LinkedIndex> maker, Consumer<LinkedIndex> run) {
        LinkedIndex index = maker.get();
        due(call + " throws", thrown(() -> run.accept(index)), exception);
        due("all after " + call, Indexes.everything(index), Indexes.everything(maker.get()));
    }

    static void end() {
        System.out.println(made + " checks, " + wrong + " wrong");
        if (wrong != 0 || made == 0) {
            System.exit(1);
        }
    }
}
