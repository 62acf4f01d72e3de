import java.lang.reflect.Method;
import java.util.ArrayList;
import java.util.Arrays;
import java.util.Comparator;
import java.util.List;
import java.util.function.IntUnaryOperator;

/** Counts the checks of one test, prints those that fail, and ends with exit code 1 if one did. */
final class Check {
    static final int INVALID = -2000000001;
    static final int IMPOSSIBLE = -2000000002;
    static final int LIMIT = -2000000003;
    static final int MISSING = -2000000004;
    static final int LEAST = Integer.MIN_VALUE;
    static final int MOST = Integer.MAX_VALUE;

    private static int passed;
    private static int failed;
    /** The method that runs, so that what fails is printed with its promise. */
    private static String running = "";

    private Check() {
    }

    /** Runs each method whose name begins with "promise", so that none can be forgotten, and ends. */
    static void runAll(Class<?> test) {
        Method[] methods = test.getDeclaredMethods();
        Arrays.sort(methods, Comparator.comparing(Method::getName));
        for (Method method : methods) {
            if (method.getName().startsWith("promise")) {
                running = method.getName() + ": ";
                run(method);
            }
        }
        running = "";
        end(test.getSimpleName());
    }

    private static void run(Method method) {
        int before = passed + failed;
        try {
            method.setAccessible(true);
            method.invoke(null);
        } catch (ReflectiveOperationException thrown) {
            isTrue("threw " + thrown.getCause(), false);
        }
        isTrue("checks something", passed + failed > before);
    }

    static void equal(String what, long got, long due) {
        if (got == due) {
            passed++;
        } else {
            failed++;
            System.out.println(running + what + " answered " + got + ", due is " + due);
        }
    }

    static void isTrue(String what, boolean got) {
        equal(what, got ? 1 : 0, 1);
    }

    /** Two rows of answers; the first that differs is told. */
    static void same(String what, List<Integer> got, List<Integer> due) {
        equal(what + ": answers", got.size(), due.size());
        for (int place = 0; place < Math.min(got.size(), due.size()); place++) {
            if (!got.get(place).equals(due.get(place))) {
                equal(what + ": place " + place, got.get(place), due.get(place));
                return;
            }
        }
    }

    static boolean isError(int answer) {
        return answer >= MISSING && answer <= INVALID;
    }

    /** An argument that is taken from least to most; each value is asked of an object of its own. */
    static void range(String what, int least, int most, IntUnaryOperator call) {
        isTrue(what + " " + least + " is taken", call.applyAsInt(least) != INVALID);
        isTrue(what + " " + most + " is taken", call.applyAsInt(most) != INVALID);
        if (least > LEAST) {
            equal(what + " " + (least - 1), call.applyAsInt(least - 1), INVALID);
            equal(what + " " + LEAST, call.applyAsInt(LEAST), INVALID);
        }
        if (most < MOST) {
            equal(what + " " + (most + 1), call.applyAsInt(most + 1), INVALID);
            equal(what + " " + MOST, call.applyAsInt(MOST), INVALID);
        }
    }

    static void end(String name) {
        System.out.println(name + ": " + passed + " passed, " + failed + " failed");
        if (failed > 0 || passed == 0) {
            System.exit(1);
        }
    }

    static void write(CupReceipts x, String text) {
        x.clearText();
        for (int place = 0; place < text.length(); place++) {
            equal("type " + text, x.type(text.charAt(place)), place + 1);
        }
    }

    /** Everything that the calls that only tell can tell, but for the length of the text: some 80 to 130 calls. */
    static List<Integer> view(CupReceipts x) {
        List<Integer> view = new ArrayList<>();
        for (int what = 0; what <= 24; what++) {
            if (what != 11) {
                view.add(x.count(what));
            }
        }
        for (int index = 0; index < x.count(0); index++) {
            int number = x.numberOf(index);
            view.add(number);
            for (int what = 0; what <= 4; what++) {
                view.add(x.lotOf(number, what));
            }
        }
        for (int contract = 0; contract < x.count(3); contract++) {
            view.add(x.contractOf(contract, 0));
            view.add(x.contractOf(contract, 1));
        }
        return view;
    }
}
