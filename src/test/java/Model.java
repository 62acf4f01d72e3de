import java.util.ArrayDeque;
import java.util.ArrayList;
import java.util.Arrays;
import java.util.Deque;
import java.util.List;
import java.util.regex.Matcher;
import java.util.regex.Pattern;

/**
 * The document once more, in the slowest and plainest form: a bag is given at a time, months pass one by one, numbers
 * are found by trying them all. Nothing of it is taken from CupReceipts, so that a slip in one shows beside the other.
 */
final class Model {
    private static final int INVALID = Check.INVALID;
    private static final int IMPOSSIBLE = Check.IMPOSSIBLE;
    private static final int LIMIT = Check.LIMIT;
    private static final int MISSING = Check.MISSING;
    private static final int[][] RANGES = {{1, 250}, {1, 4095}, {0, 50}, {0, 50}, {0, 999}};
    private static final String NUMBER = "(\\d{1,4})";
    private static final Pattern ORDER = Pattern.compile("[ls]" + NUMBER + "," + NUMBER + ";|[cdm]" + NUMBER + ";|b"
            + NUMBER + "," + NUMBER + "," + NUMBER + "," + NUMBER + ";");

    private record Lot(int number, int bags, int cup, int month) {
    }

    private record Contract(int month, int price) {
    }

    /** How one bag after the other is given: the row of the lot of each. */
    private record Giving(List<Integer> rows, boolean enough) {
    }

    private static final class State {
        List<Lot> lots = new ArrayList<>();
        List<Contract> contracts = new ArrayList<>();
        int[] worths = {100, 150, 200, 300};
        int[] settings = {100, 2388, 3, 2, 20};
        int month;
        int account;
        int met;
        int failed;
        int given;
        int made;

        State copy() {
            State copy = new State();
            copy.lots = new ArrayList<>(lots);
            copy.contracts = new ArrayList<>(contracts);
            copy.worths = worths.clone();
            copy.settings = settings.clone();
            copy.month = month;
            copy.account = account;
            copy.met = met;
            copy.failed = failed;
            copy.given = given;
            copy.made = made;
            return copy;
        }
    }

    private State state = new State();
    private final Deque<State> history = new ArrayDeque<>();
    private String text = "";

    /** One call by its name; every call of the face is told here. */
    int call(String name, int... a) {
        switch (name) {
            case "lot": case "part": case "blend": case "cup": case "worth":
            case "sell": case "buyBack": case "meet": case "pass": case "set":
                return change(name, a);
            case "lotOf":
                return lotOf(a[0], a[1]);
            case "numberOf":
                return a[0] < 0 ? INVALID : a[0] < state.lots.size() ? state.lots.get(a[0]).number : MISSING;
            case "contractOf":
                return contractOf(a[0], a[1]);
            case "paid":
                return paid(a[0], a[1], a[2]);
            case "given":
                return given(a[0], a[1], a[2]);
            case "would":
                return would(a[0], a[1]);
            case "lift":
                return lift(a[0], a[1], a[2]);
            case "bestMonth":
                return bestMonth(a[0], a[1]);
            case "count":
                return count(a[0]);
            case "undo":
                return undo();
            case "type":
                return type(a[0]);
            case "clearText":
                return clearText();
            case "fault":
                return fault(a[0]);
            default:
                return play();
        }
    }

    private int change(String name, int[] a) {
        State after = state.copy();
        int answer = perform(after, name, a);
        if (!isError(answer)) {
            remember();
            state = after;
        }
        return answer;
    }

    private void remember() {
        history.addLast(state);
        if (history.size() == 5) {
            history.removeFirst();
        }
    }

    private static boolean isError(int answer) {
        return answer == INVALID || answer == IMPOSSIBLE || answer == LIMIT || answer == MISSING;
    }

    private static int perform(State s, String name, int[] a) {
        switch (name) {
            case "lot":
                if (a[0] < 1 || a[0] > 999 || a[1] < 60 || a[1] > 100) {
                    return INVALID;
                }
                return s.lots.size() == 12 ? LIMIT : add(s, a[0], a[1], s.month);
            case "part":
                return part(s, a[0], a[1]);
            case "blend":
                return blend(s, a);
            case "cup":
                return cup(s, a[0]);
            case "worth":
                if (a[0] < 0 || a[0] > 3 || a[1] < 1 || a[1] > 999) {
                    return INVALID;
                }
                int oldWorth = s.worths[a[0]];
                s.worths[a[0]] = a[1];
                return oldWorth;
            case "sell":
                return sell(s, a[0], a[1]);
            case "buyBack":
                return buyBack(s, a[0], a[1]);
            case "meet":
                return meet(s, a[0]);
            case "pass":
                return pass(s, a[0]);
            default:
                return set(s, a[0], a[1]);
        }
    }

    private static Lot find(State s, int number) {
        for (Lot lot : s.lots) {
            if (lot.number == number) {
                return lot;
            }
        }
        return null;
    }

    private static int add(State s, int bags, int cup, int month) {
        s.lots.add(new Lot(s.made, bags, cup, month));
        return s.made++;
    }

    /** The lot with so many bags less; it is gone if none is left. */
    private static void lessen(State s, Lot lot, int bags) {
        int row = s.lots.indexOf(lot);
        if (lot.bags == bags) {
            s.lots.remove(row);
        } else {
            s.lots.set(row, new Lot(lot.number, lot.bags - bags, lot.cup, lot.month));
        }
    }

    private static int cupAt(Lot lot, int month) {
        int cup = lot.cup;
        for (int later = lot.month + 4; later <= month; later += 4) {
            if (cup > 60) {
                cup--;
            }
        }
        return cup;
    }

    private static int tooOld(Lot lot, int month) {
        int months = 0;
        for (int later = lot.month + 4; later <= month; later++) {
            months++;
        }
        return months;
    }

    private static int band(int cup) {
        return cup >= 90 ? 3 : cup >= 80 ? 2 : cup >= 70 ? 1 : 0;
    }

    private static int pay(State s, Lot lot, int price, int month) {
        int pay = price + (cupAt(lot, month) - 80) * s.settings[2] - s.settings[3] * tooOld(lot, month);
        return pay < 1 ? 1 : pay;
    }

    private static int gain(State s, Lot lot, int price, int month) {
        return pay(s, lot, price, month) - s.worths[band(cupAt(lot, month))];
    }

    private static int part(State s, int number, int bags) {
        Lot lot = find(s, number);
        if (lot == null || bags < 1) {
            return INVALID;
        }
        if (lot.bags <= bags) {
            return IMPOSSIBLE;
        }
        if (s.lots.size() == 12) {
            return LIMIT;
        }
        lessen(s, lot, bags);
        return add(s, bags, lot.cup, lot.month);
    }

    private static int blend(State s, int[] a) {
        Lot one = find(s, a[0]);
        Lot other = find(s, a[2]);
        if (one == null || other == null || one == other || a[1] < 1 || a[3] < 1) {
            return INVALID;
        }
        if (one.bags < a[1] || other.bags < a[3]) {
            return IMPOSSIBLE;
        }
        lessen(s, one, a[1]);
        lessen(s, other, a[3]);
        if (s.lots.size() == 12 || a[1] + a[3] > 9999) {
            return LIMIT;
        }
        int cups = a[1] * cupAt(one, s.month) + a[3] * cupAt(other, s.month);
        return add(s, a[1] + a[3], cups / (a[1] + a[3]), s.month);
    }

    private static int cup(State s, int number) {
        Lot lot = find(s, number);
        if (lot == null) {
            return INVALID;
        }
        if (lot.bags == 1) {
            return IMPOSSIBLE;
        }
        int now = cupAt(lot, s.month);
        s.lots.set(s.lots.indexOf(lot), new Lot(number, lot.bags - 1, now, s.month));
        return now;
    }

    private static boolean delivers(State s, int month) {
        return (s.settings[1] & 1 << month % 12) != 0;
    }

    private static int sell(State s, int month, int price) {
        if (month < 0 || month > 999 || price < 1 || price > 999) {
            return INVALID;
        }
        if (month < s.month || !delivers(s, month)) {
            return IMPOSSIBLE;
        }
        if (s.contracts.size() == 6) {
            return LIMIT;
        }
        s.contracts.add(new Contract(month, price));
        return s.contracts.size() - 1;
    }

    private static boolean isOpen(State s, int contract) {
        return contract >= 0 && contract < s.contracts.size();
    }

    private static int buyBack(State s, int contract, int price) {
        if (!isOpen(s, contract) || price < 1 || price > 999) {
            return INVALID;
        }
        int comes = s.settings[0] * (s.contracts.remove(contract).price - price);
        s.account += comes;
        return comes;
    }

    private static Giving giving(State s, int price, int month) {
        List<Integer> rows = new ArrayList<>();
        int[] left = new int[s.lots.size()];
        for (int row = 0; row < left.length; row++) {
            left[row] = cupAt(s.lots.get(row), month) >= 70 ? s.lots.get(row).bags : 0;
        }
        for (int bag = 0; bag < s.settings[0]; bag++) {
            int best = -1;
            for (int row = left.length - 1; row >= 0; row--) {
                if (left[row] > 0 && (best < 0
                        || gain(s, s.lots.get(row), price, month) >= gain(s, s.lots.get(best), price, month))) {
                    best = row;
                }
            }
            if (best < 0) {
                return new Giving(rows, false);
            }
            left[best]--;
            rows.add(best);
        }
        return new Giving(rows, true);
    }

    private static int meet(State s, int contract) {
        if (!isOpen(s, contract)) {
            return INVALID;
        }
        Contract met = s.contracts.get(contract);
        Giving giving = giving(s, met.price, s.month);
        if (met.month != s.month || !giving.enough) {
            return IMPOSSIBLE;
        }
        List<Lot> lots = new ArrayList<>(s.lots);
        int paid = 0;
        for (int row : giving.rows) {
            paid += pay(s, lots.get(row), met.price, s.month);
            lessen(s, find(s, lots.get(row).number), 1);
        }
        s.contracts.remove(contract);
        s.account += paid;
        s.met++;
        s.given += giving.rows.size();
        return paid;
    }

    private static int pass(State s, int months) {
        if (months < 1 || months > 24) {
            return INVALID;
        }
        if (s.month + months > 999) {
            return LIMIT;
        }
        int failed = 0;
        for (int passed = 0; passed < months; passed++) {
            for (int contract = s.contracts.size() - 1; contract >= 0; contract--) {
                if (s.contracts.get(contract).month == s.month) {
                    s.contracts.remove(contract);
                    s.account -= s.settings[0] * s.settings[4];
                    failed++;
                }
            }
            s.month++;
        }
        s.failed += failed;
        return failed;
    }

    private static int set(State s, int what, int value) {
        if (what < 0 || what > 4 || value < RANGES[what][0] || value > RANGES[what][1]) {
            return INVALID;
        }
        if (what == 0 && !s.contracts.isEmpty()) {
            return IMPOSSIBLE;
        }
        int old = s.settings[what];
        s.settings[what] = value;
        return old;
    }

    private int lotOf(int number, int what) {
        Lot lot = find(state, number);
        if (lot == null || what < 0 || what > 6) {
            return INVALID;
        }
        int now = cupAt(lot, state.month);
        int[] facts = {lot.bags, lot.cup, lot.month, now, state.worths[band(now)], tooOld(lot, state.month), band(now)};
        return facts[what];
    }

    private int contractOf(int contract, int what) {
        if (!isOpen(state, contract) || what < 0 || what > 2) {
            return INVALID;
        }
        Contract asked = state.contracts.get(contract);
        int[] facts = {asked.month, asked.price, asked.month - state.month};
        return facts[what];
    }

    private int paid(int number, int price, int what) {
        Lot lot = find(state, number);
        if (lot == null || price < 1 || price > 999 || what < 0 || what > 1) {
            return INVALID;
        }
        if (cupAt(lot, state.month) < 70) {
            return MISSING;
        }
        return what == 0 ? pay(state, lot, price, state.month) : 10000 + gain(state, lot, price, state.month);
    }

    private int given(int contract, int place, int what) {
        if (!isOpen(state, contract) || place < 0 || what < 0 || what > 1) {
            return INVALID;
        }
        List<Integer> rows = giving(state, state.contracts.get(contract).price, state.month).rows;
        List<Integer> order = new ArrayList<>();
        for (int row : rows) {
            if (!order.contains(row)) {
                order.add(row);
            }
        }
        if (place >= order.size()) {
            return MISSING;
        }
        int row = order.get(place);
        return what == 0 ? state.lots.get(row).number : (int) rows.stream().filter(r -> r == row).count();
    }

    private int would(int contract, int what) {
        if (!isOpen(state, contract) || what < 0 || what > 3) {
            return INVALID;
        }
        int price = state.contracts.get(contract).price;
        Giving giving = giving(state, price, state.month);
        if (!giving.enough) {
            return IMPOSSIBLE;
        }
        int paid = 0;
        int gain = 1000000;
        int cups = 0;
        int[] taken = new int[12];
        for (int row : giving.rows) {
            Lot lot = state.lots.get(row);
            paid += pay(state, lot, price, state.month);
            gain += gain(state, lot, price, state.month);
            cups += cupAt(lot, state.month);
            taken[row]++;
        }
        int usedUp = 0;
        for (int row = 0; row < state.lots.size(); row++) {
            usedUp += taken[row] == state.lots.get(row).bags ? 1 : 0;
        }
        int[] facts = {paid, gain, usedUp, Float.floatToIntBits((float) cups / (float) giving.rows.size())};
        return facts[what];
    }

    private int lift(int number, int otherNumber, int cup) {
        Lot lot = find(state, number);
        Lot other = find(state, otherNumber);
        if (lot == null || other == null || lot == other || cup < 60 || cup > 100) {
            return INVALID;
        }
        for (int bags = 1; bags <= other.bags; bags++) {
            int cups = lot.bags * cupAt(lot, state.month) + bags * cupAt(other, state.month);
            if (cups / (lot.bags + bags) >= cup) {
                return bags;
            }
        }
        return MISSING;
    }

    private int bestMonth(int price, int what) {
        if (price < 1 || price > 999 || what < 0 || what > 1) {
            return INVALID;
        }
        int best = MISSING;
        int bestGain = Integer.MIN_VALUE;
        for (int ahead = 0; ahead < 24; ahead++) {
            int month = state.month + ahead;
            Giving giving = delivers(state, month) ? giving(state, price, month) : new Giving(List.of(), false);
            int gain = 1000000;
            for (int row : giving.rows) {
                gain += gain(state, state.lots.get(row), price, month);
            }
            if (giving.enough && gain > bestGain) {
                best = ahead;
                bestGain = gain;
            }
        }
        return best == MISSING ? MISSING : what == 0 ? best : bestGain;
    }

    private int count(int what) {
        if (what >= 20 && what <= 24) {
            return state.settings[what - 20];
        }
        if (what < 0 || what > 11) {
            return INVALID;
        }
        int bags = 0;
        int toGive = 0;
        for (Lot lot : state.lots) {
            bags += lot.bags;
            toGive += cupAt(lot, state.month) >= 70 ? lot.bags : 0;
        }
        int[] facts = {state.lots.size(), bags, state.month, state.contracts.size(), state.account, state.met,
            state.failed, state.given, toGive, state.made, history.size(), text.length()};
        return facts[what];
    }

    private int undo() {
        if (history.isEmpty()) {
            return IMPOSSIBLE;
        }
        state = history.removeLast();
        return history.size();
    }

    private int type(int character) {
        if (character < 32 || character > 126) {
            return INVALID;
        }
        if (text.length() == 60) {
            return LIMIT;
        }
        text += (char) character;
        return text.length();
    }

    private int clearText() {
        int length = text.length();
        text = "";
        return length;
    }

    /** Does the text on a state: its fault as {position, reason, cause}, or {number of orders} if it has none. */
    private int[] tryText(State trial) {
        int position = 0;
        int orders = 0;
        while (position < text.length()) {
            Matcher order = ORDER.matcher(text).region(position, text.length());
            if (!order.lookingAt()) {
                return new int[] {position, 1, breaksOff(text.substring(position))};
            }
            int answer = performOrder(trial, order.group());
            if (isError(answer)) {
                return new int[] {position, 2, answer};
            }
            position = order.end();
            orders++;
        }
        return new int[] {orders};
    }

    /** How many characters could still become an order. */
    private static int breaksOff(String order) {
        int good = 0;
        for (int length = 1; length <= order.length(); length++) {
            Matcher matcher = ORDER.matcher(order.substring(0, length));
            if (!matcher.matches() && !matcher.hitEnd()) {
                return good;
            }
            good = length;
        }
        return good;
    }

    private static int performOrder(State trial, String order) {
        String kinds = "lbcsdm";
        String[] names = {"lot", "blend", "cup", "sell", "meet", "pass"};
        int[] numbers = Arrays.stream(order.substring(1, order.length() - 1).split(","))
                .mapToInt(Integer::parseInt).toArray();
        return perform(trial, names[kinds.indexOf(order.charAt(0))], numbers);
    }

    private int fault(int what) {
        if (what < 0 || what > 2) {
            return INVALID;
        }
        int[] fault = tryText(state.copy());
        return fault.length == 1 ? MISSING : fault[what];
    }

    private int play() {
        State after = state.copy();
        int[] fault = tryText(after);
        if (fault.length > 1) {
            return IMPOSSIBLE;
        }
        remember();
        state = after;
        return fault[0];
    }
}
