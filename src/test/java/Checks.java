import java.util.NoSuchElementException;

/** Counts the answers that are as due and prints those that are not. */
final class Checks {
    static final Class<IllegalArgumentException> ILLEGAL_ARGUMENT = IllegalArgumentException.class;
    static final Class<IllegalStateException> ILLEGAL_STATE = IllegalStateException.class;
    static final Class<IndexOutOfBoundsException> NO_INDEX = IndexOutOfBoundsException.class;
    static final Class<NoSuchElementException> NO_ELEMENT = NoSuchElementException.class;

    static int passed = 0;
    static int failed = 0;

    interface Call {
        void run();
    }

    private Checks() {
    }

    static void same(String what, int got, int due) {
        count(got == due, what, "answered " + got + ", due is " + due);
    }

    static void yes(String what, boolean got) {
        count(got, what, "answered false, due is true");
    }

    static void no(String what, boolean got) {
        count(!got, what, "answered true, due is false");
    }

    /** The very class is asked for: ArrayIndexOutOfBoundsException is not an answer of the document. */
    static void fails(String what, Class<? extends RuntimeException> due, Call call) {
        try {
            call.run();
            count(false, what, "threw nothing, due is " + due.getSimpleName());
        } catch (RuntimeException e) {
            count(e.getClass() == due, what, "threw " + e + ", due is " + due.getSimpleName());
        }
    }

    private static void count(boolean right, String what, String complaint) {
        if (right) {
            passed++;
        } else {
            failed++;
            System.out.println("FAILED " + what + ": " + complaint);
        }
    }
}
