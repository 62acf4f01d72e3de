import java.util.ArrayList;
import java.util.List;

/** Counts the checks of one test, prints those that fail, and ends with exit code 1 if one did. */
final class Check {
    static final int INVALID = -2000000001;
    static final int IMPOSSIBLE = -2000000002;
    static final int LIMIT = -2000000003;
    static final int MISSING = -2000000004;

    private static int passed;
    private static int failed;

    private Check() {
    }

    static void equal(String what, long got, long due) {
        if (got == due) {
            passed++;
        } else {
            failed++;
            System.out.println(what + " answered " + got + ", due is " + due);
        }
    }

    static void isTrue(String what, boolean got) {
        equal(what, got ? 1 : 0, 1);
    }

    static void end(String name) {
        System.out.println(name + ": " + passed + " passed, " + failed + " failed");
        if (failed > 0 || passed == 0) {
            System.exit(1);
        }
    }

    static void write(CupReceipts x, String text) {
        x.clearText();
        for (int place = 0; place < text.length(); place++) {
            equal("type " + text, x.type(text.charAt(place)), place + 1);
        }
    }

    /** Everything that the calls that only tell can tell, but for the length of the text: some 80 to 130 calls. */
    static List<Integer> view(CupReceipts x) {
        List<Integer> view = new ArrayList<>();
        for (int what = 0; what <= 24; what++) {
            if (what != 11) {
                view.add(x.count(what));
            }
        }
        for (int index = 0; index < x.count(0); index++) {
            int number = x.numberOf(index);
            view.add(number);
            for (int what = 0; what <= 4; what++) {
                view.add(x.lotOf(number, what));
            }
        }
        for (int contract = 0; contract < x.count(3); contract++) {
            view.add(x.contractOf(contract, 0));
            view.add(x.contractOf(contract, 1));
        }
        return view;
    }
}
