import java.util.List;
import java.util.ArrayList;

/** Counts and prints answers that are not due; shared by all tests of the project. */
final class Check {
    interface Call {
        Object answer();
    }

    private static int made = 0;
    private static final List<String> WRONG = new ArrayList<>();

    private Check() {
    }

    static void same(String what, Object got, Object due) {
        made++;
        if (!String.valueOf(due).equals(String.valueOf(got))) {
            WRONG.add(what + " answered " + got + ", due is " + due);
        }
    }

    /** The call throws just this exception: a class below it is another one. */
    static void fails(String what, Class<? extends RuntimeException> due, Call call) {
        made++;
        try {
            WRONG.add(what + " answered " + call.answer() + ", due is " + due.getSimpleName());
        } catch (RuntimeException thrown) {
            if (thrown.getClass() != due) {
                WRONG.add(what + " threw " + thrown + ", due is " + due.getSimpleName());
            }
        }
    }

    static void end(Class<?> test) {
        for (int i = 0; i < WRONG.size() && i < 50; i++) {
            System.out.println(test.getSimpleName() + ": " + WRONG.get(i));
        }
        System.out.println(test.getSimpleName() + ": " + made + " answers looked at, " + WRONG.size() + " wrong");
        if (!WRONG.isEmpty()) {
            System.exit(1);
        }
    }
}
