import java.util.ArrayList;
import java.util.List;
import java.util.Objects;

/** Runs tests by name, and keeps what each of them found wrong. */
final class Checks {
    interface Test {
        void run(Checks checks);
    }

    interface Call {
        Object answer();
    }

    private static final int MOST_LINES = 10;

    private int passed = 0;
    private int failed = 0;
    private List<String> wrong = new ArrayList<>();

    void test(String name, Test test) {
        wrong = new ArrayList<>();
        try {
            test.run(this);
        } catch (RuntimeException | Error e) {
            wrong.add("the test itself stopped with " + e);
        }
        if (wrong.isEmpty()) {
            passed++;
            return;
        }
        failed++;
        System.out.println("FAILED " + name);
        for (int i = 0; i < Math.min(wrong.size(), MOST_LINES); i++) {
            System.out.println("  " + wrong.get(i));
        }
    }

    void same(String what, Object got, Object due) {
        if (!Objects.equals(got, due)) {
            wrong.add(what + " answered " + got + ", due is " + due);
        }
    }

    /** The call throws just this exception, and nothing that can be seen has changed by it. */
    void refused(
            KeyCabinet cabinet, String what, Class<? extends RuntimeException> due, Call call) {
        long before = cabinet.digest();
        same(what, outcome(call), "throws " + due.getSimpleName());
        same("digest() after " + what, cabinet.digest(), before);
    }

    /** The answer of a call, or "throws " and the name of what it throws. */
    static Object outcome(Call call) {
        try {
            return call.answer();
        } catch (RuntimeException e) {
            return "throws " + e.getClass().getSimpleName();
        }
    }

    boolean report() {
        System.out.println("project: " + passed + " passed, " + failed + " failed");
        return failed == 0 && passed > 0;
    }
}
