import java.util.ArrayList;
import java.util.Arrays;
import java.util.List;
import java.util.Map;
import java.util.TreeMap;

/** Long runs of drawn calls, each answered by the class and by the model alike. */
public final class ModelTest {
    private static final int RUNS = 1500;
    private static final int CALLS = 512;
    private static final int[] EDGES = {Integer.MIN_VALUE, -1000, -1, 0, 1, 12, 25, 59, 60, 69, 70, 100, 101, 250, 251,
        999, 1000, 4095, 4096, 9999, 10000, Integer.MAX_VALUE};
    private static final String[] CHANGES = {"lot", "lot", "part", "blend", "blend", "cup", "worth", "sell", "sell",
        "sell", "buyBack", "meet", "meet", "meet", "pass", "pass", "set", "play", "undo"};
    private static final String[] LOOKS = {"lotOf", "numberOf", "contractOf", "paid", "given", "would", "lift", "lift",
        "bestMonth", "count", "fault", "fault"};
    private static final int[] ARITY = {2, 2, 4, 1, 2, 2, 2, 1, 1, 2, 2, 1, 2, 3, 3, 2, 3, 2, 1, 0, 1, 0, 1, 0};
    private static final String[] NAMES = {"lot", "part", "blend", "cup", "worth", "sell", "buyBack", "meet", "pass",
        "set", "lotOf", "numberOf", "contractOf", "paid", "given", "would", "lift", "bestMonth", "count", "undo",
        "type", "clearText", "fault", "play"};

    /** How often each call was answered by an error, or by none: each kind must have come. */
    private static final Map<String, Integer> KINDS = new TreeMap<>();

    private long seed;
    private final CupReceipts real = new CupReceipts();
    private final Model model = new Model();
    private final List<String> calls = new ArrayList<>();
    private final StringBuilder toType = new StringBuilder();
    private final boolean inAHurry;
    private boolean same = true;

    private ModelTest(int run) {
        seed = run;
        inAHurry = run % 8 == 0;
    }

    public static void main(String[] args) {
        for (int run = 1; run <= RUNS; run++) {
            new ModelTest(run).run(run);
        }
        everyKindOfAnswerHasCome();
        Check.end("ModelTest");
    }

    private void run(int run) {
        while (calls.size() < CALLS && same) {
            if (toType.length() > 0) {
                ask("type", toType.charAt(0));
                toType.deleteCharAt(0);
            } else {
                draw();
            }
        }
        Check.isTrue("run " + run + " after " + calls.size() + " calls", same);
    }

    private void draw() {
        int kind = below(40);
        if (kind == 0 && calls.size() > 30) {
            ask("clearText");
            drawText();
        } else if (kind == 1) {
            drawWild();
        } else if (kind < 7 && inAHurry) {
            ask("pass", 20 + below(5));
        } else if (kind < 22) {
            drawCall(CHANGES[below(CHANGES.length)]);
        } else {
            drawCall(LOOKS[below(LOOKS.length)]);
        }
    }

    private void drawWild() {
        int call = below(NAMES.length);
        int[] a = new int[ARITY[call]];
        for (int i = 0; i < a.length; i++) {
            a[i] = EDGES[below(EDGES.length)];
        }
        ask(NAMES[call], a);
    }

    private void drawCall(String name) {
        switch (name) {
            case "lot":
                ask(name, below(4) == 0 ? 1 + below(999) : 1 + below(30), 60 + below(41));
                break;
            case "part":
                ask(name, aLot(), 1 + below(below(3) == 0 ? 200 : 10));
                break;
            case "blend":
                int one = aLot();
                int other = aLot();
                ask(name, one, someBags(one), other, someBags(other));
                break;
            case "cup":
                ask(name, aLot());
                break;
            case "worth":
                ask(name, below(4), 1 + below(300));
                break;
            case "sell":
                ask(name, model.call("count", 2) + below(3), 1 + below(below(2) == 0 ? 999 : 250));
                break;
            case "buyBack":
                ask(name, aContract(), 1 + below(999));
                break;
            case "meet":
                ask(name, aContract());
                break;
            case "pass":
                ask(name, below(5) == 0 ? 1 + below(24) : 1 + below(3));
                break;
            case "set":
                drawSet();
                break;
            case "play":
            case "undo":
                ask(name);
                break;
            default:
                drawLook(name);
        }
    }

    private void drawSet() {
        int what = below(5);
        int[] most = {60, 4095, 50, 50, 999};
        int value = what == 1 ? 4095 - below(3) * below(1300) : 1 + below(most[what]);
        ask("set", what, value);
    }

    private void drawLook(String name) {
        switch (name) {
            case "lotOf":
                ask(name, aLot(), below(7));
                break;
            case "numberOf":
                ask(name, below(13));
                break;
            case "contractOf":
                ask(name, aContract(), below(3));
                break;
            case "paid":
                ask(name, aLot(), 1 + below(999), below(2));
                break;
            case "given":
                ask(name, aContract(), below(5), below(2));
                break;
            case "would":
                ask(name, aContract(), below(4));
                break;
            case "lift":
                ask(name, aLot(), aLot(), 60 + below(41));
                break;
            case "bestMonth":
                ask(name, 1 + below(999), below(2));
                break;
            case "count":
                ask(name, below(27) - 1);
                break;
            default:
                ask(name, below(3));
        }
    }

    private void drawText() {
        int orders = 1 + below(6);
        for (int order = 0; order < orders; order++) {
            switch (below(7)) {
                case 0:
                    toType.append("l").append(1 + below(99)).append(",").append(60 + below(40)).append(";");
                    break;
                case 1:
                    toType.append("b").append(aLot()).append(",1,").append(aLot()).append(",0").append(1).append(";");
                    break;
                case 2:
                    toType.append("c").append(aLot()).append(";");
                    break;
                case 3:
                case 4:
                    toType.append("s").append(model.call("count", 2)).append(",").append(1 + below(999)).append(";d0;");
                    break;
                default:
                    toType.append("m").append(1 + below(3)).append(";");
            }
        }
        if (below(3) == 0) {
            toType.setCharAt(below(toType.length()), ",;0123456789lbcsdm x".charAt(below(20)));
        }
        if (below(8) == 0) {
            toType.setLength(below(toType.length()) + 1);
        }
    }

    private int aLot() {
        int lots = model.call("count", 0);
        return lots == 0 || below(25) == 0 ? below(20) - 1 : model.call("numberOf", below(lots));
    }

    private int someBags(int lot) {
        int bags = model.call("lotOf", lot, 0);
        return bags < 1 || below(15) == 0 ? below(20) : below(2) == 0 ? bags : 1 + below(bags);
    }

    private int aContract() {
        int open = model.call("count", 3);
        return open == 0 || below(25) == 0 ? below(8) - 1 : below(open);
    }

    private int below(int bound) {
        seed = seed * 6364136223846793005L + 1442695040888963407L;
        return (int) ((seed >>> 33) % bound);
    }

    private void ask(String name, int... a) {
        int got = answer(name, a);
        int due = model.call(name, a);
        calls.add(name + Arrays.toString(a));
        KINDS.merge(name + (due < -2000000000 ? " " + due : ""), 1, Integer::sum);
        if (got != due) {
            same = false;
            System.out.println(String.join(" ", calls));
            Check.equal(name + Arrays.toString(a), got, due);
        }
    }

    private int answer(String name, int[] a) {
        switch (name) {
            case "lot":
                return real.lot(a[0], a[1]);
            case "part":
                return real.part(a[0], a[1]);
            case "blend":
                return real.blend(a[0], a[1], a[2], a[3]);
            case "cup":
                return real.cup(a[0]);
            case "worth":
                return real.worth(a[0], a[1]);
            case "sell":
                return real.sell(a[0], a[1]);
            case "buyBack":
                return real.buyBack(a[0], a[1]);
            case "meet":
                return real.meet(a[0]);
            case "pass":
                return real.pass(a[0]);
            case "set":
                return real.set(a[0], a[1]);
            case "lotOf":
                return real.lotOf(a[0], a[1]);
            case "numberOf":
                return real.numberOf(a[0]);
            default:
                return laterAnswer(name, a);
        }
    }

    private int laterAnswer(String name, int[] a) {
        switch (name) {
            case "contractOf":
                return real.contractOf(a[0], a[1]);
            case "paid":
                return real.paid(a[0], a[1], a[2]);
            case "given":
                return real.given(a[0], a[1], a[2]);
            case "would":
                return real.would(a[0], a[1]);
            case "lift":
                return real.lift(a[0], a[1], a[2]);
            case "bestMonth":
                return real.bestMonth(a[0], a[1]);
            case "count":
                return real.count(a[0]);
            case "undo":
                return real.undo();
            case "type":
                return real.type(a[0]);
            case "clearText":
                return real.clearText();
            case "fault":
                return real.fault(a[0]);
            default:
                return real.play();
        }
    }

    private static void everyKindOfAnswerHasCome() {
        String[] errors = {"lot -2000000001", "lot -2000000003", "part -2000000001", "part -2000000002",
            "part -2000000003", "blend -2000000001", "blend -2000000002", "blend -2000000003", "cup -2000000001",
            "cup -2000000002", "worth -2000000001", "sell -2000000001", "sell -2000000002", "sell -2000000003",
            "buyBack -2000000001", "meet -2000000001", "meet -2000000002", "pass -2000000001", "pass -2000000003",
            "set -2000000001", "set -2000000002", "lotOf -2000000001", "numberOf -2000000001", "numberOf -2000000004",
            "contractOf -2000000001", "paid -2000000001", "paid -2000000004", "given -2000000001", "given -2000000004",
            "would -2000000001", "would -2000000002", "lift -2000000001", "lift -2000000004", "bestMonth -2000000001",
            "bestMonth -2000000004", "count -2000000001", "undo -2000000002", "type -2000000001", "type -2000000003",
            "fault -2000000001", "fault -2000000004", "play -2000000002"};
        for (String kind : errors) {
            Check.isTrue("come: " + kind, KINDS.getOrDefault(kind, 0) >= 5);
        }
        for (String name : NAMES) {
            Check.isTrue("come: " + name, KINDS.getOrDefault(name, 0) >= 100);
        }
    }
}
