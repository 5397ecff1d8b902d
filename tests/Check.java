import java.util.ArrayList;
import java.util.List;
import java.util.NoSuchElementException;

/** Counts and prints answers that are not due; shared by all tests of the project. */
final class Check {
    interface Call {
        Object answer();
    }

    private static final List<Class<?>> THROWN = List.of(IllegalArgumentException.class, IllegalStateException.class,
            IndexOutOfBoundsException.class, UnsupportedOperationException.class, NoSuchElementException.class,
            ArithmeticException.class);
    private static int made = 0;
    private static final List<String> WRONG = new ArrayList<>();
    private static String about = "";

    private Check() {
    }

    /** What the checks from now on are about, told ahead of each that is wrong. */
    static void about(String sentence) {
        about = sentence.isEmpty() ? "" : sentence + ": ";
    }

    static void same(String what, Object got, Object due) {
        made++;
        if (!String.valueOf(due).equals(String.valueOf(got))) {
            wrong(what + " answered " + got + ", due is " + due);
        }
    }

    /** The call throws just this exception: a class below it is another one, and so is one that the machine throws. */
    static void fails(String what, Class<? extends RuntimeException> due, Call call) {
        made++;
        try {
            wrong(what + " answered " + call.answer() + ", due is " + due.getSimpleName());
        } catch (RuntimeException thrown) {
            if (thrown.getClass() != due || !isThrownByClass(thrown)) {
                wrong(what + " threw " + thrown + ", due is " + due.getSimpleName());
            }
        }
    }

    /** The call throws nothing. */
    static void runs(String what, Call call) {
        made++;
        try {
            call.answer();
        } catch (RuntimeException thrown) {
            wrong(what + " threw " + thrown);
        }
    }

    /** The call answers, or throws another exception than this one. */
    static void failsNot(String what, Class<? extends RuntimeException> refused, Call call) {
        made++;
        try {
            call.answer();
        } catch (RuntimeException thrown) {
            if (thrown.getClass() == refused || !isThrownByClass(thrown)) {
                wrong(what + " threw " + thrown);
            }
        }
    }

    /** Whether a throw of the class itself threw it: not the library below it, nor the machine. */
    static boolean isThrownByClass(Throwable thrown) {
        StackTraceElement[] calls = thrown.getStackTrace();
        boolean isDivision = String.valueOf(thrown.getMessage()).contains("by zero");
        // What the machine throws often has no calls; what a statement throws always has.
        boolean isAbove = calls.length > 0 && calls[0].getClassName().startsWith("Neonworks");
        return THROWN.contains(thrown.getClass()) && isAbove && !isDivision;
    }

    private static void wrong(String what) {
        WRONG.add(about + what);
    }

    static void end(Class<?> test) {
        for (int i = 0; i < WRONG.size() && i < 50; i++) {
            System.out.println(test.getSimpleName() + ": " + WRONG.get(i));
        }
        System.out.println(test.getSimpleName() + ": " + made + " answers looked at, " + WRONG.size() + " wrong");
        if (!WRONG.isEmpty()) {
            System.exit(1);
        }
    }
}
