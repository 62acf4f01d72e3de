/** Receipts for bags of coffee; ../shared/DOC.md says what every call answers. */
public final class CupReceipts {
    public static final int INVALID_ARGUMENT = -2000000001;
    public static final int NOT_POSSIBLE = -2000000002;
    public static final int LIMIT_REACHED = -2000000003;
    public static final int NOT_FOUND = -2000000004;

    private static final int MOST_LOTS = 12;
    private static final int MOST_BAGS_BROUGHT = 999;
    private static final int MOST_BAGS_IN_LOT = 9999;
    private static final int LEAST_CUP = 60;
    private static final int MOST_CUP = 100;
    private static final int LEAST_CUP_GIVEN = 70;
    private static final int EVEN_CUP = 80;
    private static final int MONTHS_FOR_A_CUP = 4;
    private static final int MONTHS_WITHOUT_DISCOUNT = 3;

    private static final int MOST_CONTRACTS = 6;
    private static final int MOST_PRICE = 999;
    private static final int MOST_WORTH = 999;
    private static final int LAST_MONTH = 999;
    private static final int MONTHS_OF_A_YEAR = 12;
    private static final int MOST_MONTHS_PASSED = 24;
    private static final int MONTHS_LOOKED_AT = 24;

    private static final int BANDS = 4;
    private static final int SETTINGS = 5;
    private static final int BAGS_OF_CONTRACT = 0;
    private static final int DELIVERY_MONTHS = 1;
    private static final int PREMIUM = 2;
    private static final int DISCOUNT = 3;
    private static final int FINE = 4;
    private static final int[] FIRST_WORTHS = {100, 150, 200, 300};
    private static final int[] FIRST_SETTINGS = {100, 2388, 3, 2, 20};
    private static final int[] LEAST_SETTINGS = {1, 1, 0, 0, 0};
    private static final int[] MOST_SETTINGS = {250, 4095, 50, 50, 999};

    private static final int COUNT_OF_FIRST_SETTING = 20;
    private static final int ADDED_TO_GAIN = 10000;
    private static final int ADDED_TO_GAIN_TOGETHER = 1000000;

    private static final int MOST_STATES = 4;
    private static final int MOST_SIGNS = 60;
    private static final int MOST_NUMBERS = 4;
    private static final int MOST_DIGITS = 4;
    private static final int NO_FAULT = 0;
    private static final int BAD_FORM = 1;
    private static final int BAD_CALL = 2;

    private final House house = new House();
    /** Every change is tried here first, so that one with an error leaves the house as it was. */
    private final House trial = new House();
    private final History history = new History();
    private final Delivery delivery = new Delivery();
    private final Orders orders = new Orders();

    public CupReceipts() {
    }

    // ---- lots

    public int lot(int bags, int cup) {
        trial.copyFrom(house);
        return accept(trial.bringLot(bags, cup));
    }

    public int part(int lot, int bags) {
        trial.copyFrom(house);
        return accept(trial.partLot(lot, bags));
    }

    public int blend(int one, int bags, int other, int withBags) {
        trial.copyFrom(house);
        return accept(trial.blendLots(one, bags, other, withBags));
    }

    public int cup(int lot) {
        trial.copyFrom(house);
        return accept(trial.cupAnew(lot));
    }

    public int worth(int band, int worth) {
        trial.copyFrom(house);
        return accept(trial.changeWorth(band, worth));
    }

    // ---- contracts

    public int sell(int month, int price) {
        trial.copyFrom(house);
        return accept(trial.sellContract(month, price));
    }

    public int buyBack(int contract, int price) {
        trial.copyFrom(house);
        return accept(trial.buyContractBack(contract, price));
    }

    public int meet(int contract) {
        trial.copyFrom(house);
        return accept(trial.meetContract(contract, delivery));
    }

    public int pass(int months) {
        trial.copyFrom(house);
        return accept(trial.passMonths(months));
    }

    public int set(int what, int value) {
        trial.copyFrom(house);
        return accept(trial.changeSetting(what, value));
    }

    // ---- what there is

    public int lotOf(int lot, int what) {
        int row = house.lots.rowOf(lot);
        return row < 0 ? INVALID_ARGUMENT : house.tellOfLot(row, what);
    }

    public int numberOf(int index) {
        if (index < 0) {
            return INVALID_ARGUMENT;
        }
        return index < house.lots.size ? house.lots.numbers[index] : NOT_FOUND;
    }

    public int contractOf(int contract, int what) {
        if (!house.contracts.isOpen(contract)) {
            return INVALID_ARGUMENT;
        }
        switch (what) {
            case 0:
                return house.contracts.months[contract];
            case 1:
                return house.contracts.prices[contract];
            case 2:
                return house.contracts.months[contract] - house.month;
            default:
                return INVALID_ARGUMENT;
        }
    }

    public int paid(int lot, int price, int what) {
        int row = house.lots.rowOf(lot);
        if (row < 0 || !isWithin(price, 1, MOST_PRICE) || !isWithin(what, 0, 1)) {
            return INVALID_ARGUMENT;
        }
        int cupNow = house.lots.cupAt(row, house.month);
        if (cupNow < LEAST_CUP_GIVEN) {
            return NOT_FOUND;
        }
        int pay = house.payForBag(price, cupNow, house.lots.monthsTooOld(row, house.month));
        return what == 0 ? pay : pay - house.worths[bandOf(cupNow)] + ADDED_TO_GAIN;
    }

    // ---- what would be

    public int given(int contract, int place, int what) {
        if (!house.contracts.isOpen(contract) || place < 0 || !isWithin(what, 0, 1)) {
            return INVALID_ARGUMENT;
        }
        delivery.plan(house, house.contracts.prices[contract], house.month);
        if (place >= delivery.places) {
            return NOT_FOUND;
        }
        return what == 0 ? house.lots.numbers[delivery.rows[place]] : delivery.bags[place];
    }

    public int would(int contract, int what) {
        if (!house.contracts.isOpen(contract) || !isWithin(what, 0, 3)) {
            return INVALID_ARGUMENT;
        }
        delivery.plan(house, house.contracts.prices[contract], house.month);
        if (delivery.missing > 0) {
            return NOT_POSSIBLE;
        }
        switch (what) {
            case 0:
                return delivery.pay;
            case 1:
                return delivery.gain + ADDED_TO_GAIN_TOGETHER;
            case 2:
                return delivery.usedUp;
            default:
                return bitsOfMeanCup(delivery.sumOfCups, house.settings[BAGS_OF_CONTRACT]);
        }
    }

    public int lift(int lot, int other, int cup) {
        int row = house.lots.rowOf(lot);
        int helper = house.lots.rowOf(other);
        if (row < 0 || helper < 0 || row == helper || !isWithin(cup, LEAST_CUP, MOST_CUP)) {
            return INVALID_ARGUMENT;
        }
        int lacking = (cup - house.lots.cupAt(row, house.month)) * house.lots.bags[row];
        int step = house.lots.cupAt(helper, house.month) - cup;
        int needed = leastStepsTo(lacking, step);
        return needed < 1 || needed > house.lots.bags[helper] ? NOT_FOUND : needed;
    }

    public int bestMonth(int price, int what) {
        if (!isWithin(price, 1, MOST_PRICE) || !isWithin(what, 0, 1)) {
            return INVALID_ARGUMENT;
        }
        int best = NOT_FOUND;
        int bestGain = 0;
        for (int ahead = 0; ahead < MONTHS_LOOKED_AT; ahead++) {
            if (house.isDeliveryMonth(house.month + ahead)) {
                delivery.plan(house, price, house.month + ahead);
                if (delivery.missing == 0 && (best == NOT_FOUND || delivery.gain > bestGain)) {
                    best = ahead;
                    bestGain = delivery.gain;
                }
            }
        }
        return what == 0 || best == NOT_FOUND ? best : bestGain + ADDED_TO_GAIN_TOGETHER;
    }

    public int count(int what) {
        if (isWithin(what, COUNT_OF_FIRST_SETTING, COUNT_OF_FIRST_SETTING + SETTINGS - 1)) {
            return house.settings[what - COUNT_OF_FIRST_SETTING];
        }
        switch (what) {
            case 10:
                return history.states;
            case 11:
                return orders.length;
            default:
                return house.tellCount(what);
        }
    }

    public int undo() {
        if (history.states == 0) {
            return NOT_POSSIBLE;
        }
        history.restoreLatest(house);
        return history.states;
    }

    // ---- texts

    public int type(int character) {
        return isWithin(character, 32, 126) ? orders.append((char) character) : INVALID_ARGUMENT;
    }

    public int clearText() {
        int length = orders.length;
        orders.length = 0;
        return length;
    }

    public int fault(int what) {
        if (!isWithin(what, 0, 2)) {
            return INVALID_ARGUMENT;
        }
        trial.copyFrom(house);
        orders.runOn(trial, delivery);
        if (orders.reason == NO_FAULT) {
            return NOT_FOUND;
        }
        switch (what) {
            case 0:
                return orders.start;
            case 1:
                return orders.reason;
            default:
                return orders.cause;
        }
    }

    public int play() {
        trial.copyFrom(house);
        orders.runOn(trial, delivery);
        return accept(orders.reason == NO_FAULT ? orders.done : NOT_POSSIBLE);
    }

    /** Makes the tried change real, unless its answer is an error. */
    private int accept(int answer) {
        if (!isError(answer)) {
            history.record(house);
            house.copyFrom(trial);
        }
        return answer;
    }

    private static boolean isWithin(int value, int least, int most) {
        return value >= least && value <= most;
    }

    /** Buying back can answer a number below 0 that is no error. */
    private static boolean isError(int answer) {
        return isWithin(answer, NOT_FOUND, INVALID_ARGUMENT);
    }

    private static int bandOf(int cup) {
        if (cup < 70) {
            return 0;
        }
        if (cup < 80) {
            return 1;
        }
        return cup < 90 ? 2 : 3;
    }

    /** The least number of steps, 1 or more, that together reach what is lacking; 0 if none does. */
    private static int leastStepsTo(int lacking, int step) {
        if (step >= lacking) {
            return 1;
        }
        return step <= 0 ? 0 : (lacking + step - 1) / step;
    }

    /**
     * The bits are put together by hand, since the language has no call for them: a mean cup is from 64
     * to below 128, so its exponent is always 6, and times 2 to the 17 it is its whole 24 bit significand.
     */
    private static int bitsOfMeanCup(int cups, int bags) {
        if (bags < 1) {
            return NOT_POSSIBLE;
        }
        float mean = (float) cups / (float) bags;
        int significand = (int) (mean * 131072f);
        return ((127 + 6) << 23) + significand - (1 << 23);
    }

    /** The lots of a house, in rows by their numbers: the lowest first. */
    private static final class Lots {
        final int[] numbers = new int[MOST_LOTS];
        final int[] bags = new int[MOST_LOTS];
        final int[] cups = new int[MOST_LOTS];
        final int[] months = new int[MOST_LOTS];
        int size;
        int made;

        void copyFrom(Lots from) {
            for (int row = 0; row < MOST_LOTS; row++) {
                numbers[row] = from.numbers[row];
                bags[row] = from.bags[row];
                cups[row] = from.cups[row];
                months[row] = from.months[row];
            }
            size = from.size;
            made = from.made;
        }

        int rowOf(int number) {
            for (int row = 0; row < size; row++) {
                if (numbers[row] == number) {
                    return row;
                }
            }
            return -1;
        }

        boolean isFull() {
            return size >= MOST_LOTS;
        }

        int add(int newBags, int cup, int month) {
            if (isFull()) {
                return LIMIT_REACHED;
            }
            numbers[size] = made;
            bags[size] = newBags;
            cups[size] = cup;
            months[size] = month;
            size++;
            made++;
            return made - 1;
        }

        void dropEmpty() {
            int left = 0;
            for (int row = 0; row < size; row++) {
                if (bags[row] > 0) {
                    numbers[left] = numbers[row];
                    bags[left] = bags[row];
                    cups[left] = cups[row];
                    months[left] = months[row];
                    left++;
                }
            }
            size = left;
        }

        int cupAt(int row, int month) {
            int cup = cups[row] - (month - months[row]) / MONTHS_FOR_A_CUP;
            return cup < LEAST_CUP ? LEAST_CUP : cup;
        }

        int monthsTooOld(int row, int month) {
            int tooOld = month - months[row] - MONTHS_WITHOUT_DISCOUNT;
            return tooOld < 0 ? 0 : tooOld;
        }

        int allBags() {
            int sum = 0;
            for (int row = 0; row < size; row++) {
                sum += bags[row];
            }
            return sum;
        }

        int bagsToGive(int month) {
            int sum = 0;
            for (int row = 0; row < size; row++) {
                if (cupAt(row, month) >= LEAST_CUP_GIVEN) {
                    sum += bags[row];
                }
            }
            return sum;
        }
    }

    /** The open contracts, in the order in which they were sold: a contract's number is its row. */
    private static final class Contracts {
        final int[] months = new int[MOST_CONTRACTS];
        final int[] prices = new int[MOST_CONTRACTS];
        int size;

        void copyFrom(Contracts from) {
            for (int row = 0; row < MOST_CONTRACTS; row++) {
                months[row] = from.months[row];
                prices[row] = from.prices[row];
            }
            size = from.size;
        }

        boolean isOpen(int contract) {
            return contract >= 0 && contract < size;
        }

        int add(int month, int price) {
            if (size >= MOST_CONTRACTS) {
                return LIMIT_REACHED;
            }
            months[size] = month;
            prices[size] = price;
            size++;
            return size - 1;
        }

        void drop(int contract) {
            if (!isOpen(contract)) {
                return;
            }
            for (int row = contract + 1; row < size; row++) {
                months[row - 1] = months[row];
                prices[row - 1] = prices[row];
            }
            size--;
        }

        /** Drops those for months ahead of a month, and tells how many they were. */
        int dropBefore(int month) {
            int left = 0;
            for (int row = 0; row < size; row++) {
                if (months[row] >= month) {
                    months[left] = months[row];
                    prices[left] = prices[row];
                    left++;
                }
            }
            int dropped = size - left;
            size = left;
            return dropped;
        }
    }

    /** All that a change may change: what the history records. */
    private static final class House {
        final Lots lots = new Lots();
        final Contracts contracts = new Contracts();
        final int[] worths = FIRST_WORTHS.clone();
        final int[] settings = FIRST_SETTINGS.clone();
        int month;
        int account;
        int contractsMet;
        int contractsFailed;
        int bagsGiven;

        void copyFrom(House from) {
            lots.copyFrom(from.lots);
            contracts.copyFrom(from.contracts);
            for (int band = 0; band < BANDS; band++) {
                worths[band] = from.worths[band];
            }
            for (int what = 0; what < SETTINGS; what++) {
                settings[what] = from.settings[what];
            }
            month = from.month;
            account = from.account;
            contractsMet = from.contractsMet;
            contractsFailed = from.contractsFailed;
            bagsGiven = from.bagsGiven;
        }

        int bringLot(int bags, int cup) {
            if (!isWithin(bags, 1, MOST_BAGS_BROUGHT) || !isWithin(cup, LEAST_CUP, MOST_CUP)) {
                return INVALID_ARGUMENT;
            }
            return lots.add(bags, cup, month);
        }

        int partLot(int lot, int bags) {
            int row = lots.rowOf(lot);
            if (row < 0 || bags < 1) {
                return INVALID_ARGUMENT;
            }
            if (lots.bags[row] <= bags) {
                return NOT_POSSIBLE;
            }
            if (lots.isFull()) {
                return LIMIT_REACHED;
            }
            lots.bags[row] -= bags;
            return lots.add(bags, lots.cups[row], lots.months[row]);
        }

        int blendLots(int one, int bags, int other, int withBags) {
            int row = lots.rowOf(one);
            int otherRow = lots.rowOf(other);
            if (row < 0 || otherRow < 0 || row == otherRow || bags < 1 || withBags < 1) {
                return INVALID_ARGUMENT;
            }
            if (bags > lots.bags[row] || withBags > lots.bags[otherRow]) {
                return NOT_POSSIBLE;
            }
            int together = bags + withBags;
            boolean oneUsedUp = bags == lots.bags[row];
            boolean otherUsedUp = withBags == lots.bags[otherRow];
            if (together > MOST_BAGS_IN_LOT || lots.isFull() && !oneUsedUp && !otherUsedUp) {
                return LIMIT_REACHED;
            }
            int sum = bags * lots.cupAt(row, month) + withBags * lots.cupAt(otherRow, month);
            lots.bags[row] -= bags;
            lots.bags[otherRow] -= withBags;
            lots.dropEmpty();
            return lots.add(together, sum / together, month);
        }

        int cupAnew(int lot) {
            int row = lots.rowOf(lot);
            if (row < 0) {
                return INVALID_ARGUMENT;
            }
            if (lots.bags[row] <= 1) {
                return NOT_POSSIBLE;
            }
            lots.bags[row]--;
            lots.cups[row] = lots.cupAt(row, month);
            lots.months[row] = month;
            return lots.cups[row];
        }

        int changeWorth(int band, int worth) {
            if (!isWithin(band, 0, BANDS - 1) || !isWithin(worth, 1, MOST_WORTH)) {
                return INVALID_ARGUMENT;
            }
            int old = worths[band];
            worths[band] = worth;
            return old;
        }

        int sellContract(int forMonth, int price) {
            if (!isWithin(forMonth, 0, LAST_MONTH) || !isWithin(price, 1, MOST_PRICE)) {
                return INVALID_ARGUMENT;
            }
            if (forMonth < month || !isDeliveryMonth(forMonth)) {
                return NOT_POSSIBLE;
            }
            return contracts.add(forMonth, price);
        }

        int buyContractBack(int contract, int price) {
            if (!contracts.isOpen(contract) || !isWithin(price, 1, MOST_PRICE)) {
                return INVALID_ARGUMENT;
            }
            int comes = settings[BAGS_OF_CONTRACT] * (contracts.prices[contract] - price);
            account += comes;
            contracts.drop(contract);
            return comes;
        }

        int meetContract(int contract, Delivery delivery) {
            if (!contracts.isOpen(contract)) {
                return INVALID_ARGUMENT;
            }
            if (contracts.months[contract] != month) {
                return NOT_POSSIBLE;
            }
            delivery.plan(this, contracts.prices[contract], month);
            if (delivery.missing > 0) {
                return NOT_POSSIBLE;
            }
            for (int place = 0; place < delivery.places; place++) {
                lots.bags[delivery.rows[place]] -= delivery.bags[place];
            }
            lots.dropEmpty();
            contracts.drop(contract);
            account += delivery.pay;
            contractsMet++;
            bagsGiven += settings[BAGS_OF_CONTRACT];
            return delivery.pay;
        }

        int passMonths(int months) {
            if (!isWithin(months, 1, MOST_MONTHS_PASSED)) {
                return INVALID_ARGUMENT;
            }
            if (month + months > LAST_MONTH) {
                return LIMIT_REACHED;
            }
            month += months;
            int failed = contracts.dropBefore(month);
            contractsFailed += failed;
            account -= failed * settings[BAGS_OF_CONTRACT] * settings[FINE];
            return failed;
        }

        int changeSetting(int what, int value) {
            if (!isWithin(what, 0, SETTINGS - 1)
                    || !isWithin(value, LEAST_SETTINGS[what], MOST_SETTINGS[what])) {
                return INVALID_ARGUMENT;
            }
            if (what == BAGS_OF_CONTRACT && contracts.size > 0) {
                return NOT_POSSIBLE;
            }
            int old = settings[what];
            settings[what] = value;
            return old;
        }

        boolean isDeliveryMonth(int asked) {
            return (settings[DELIVERY_MONTHS] >> Math.floorMod(asked, MONTHS_OF_A_YEAR) & 1) == 1;
        }

        int payForBag(int price, int cup, int monthsTooOld) {
            int pay = price + (cup - EVEN_CUP) * settings[PREMIUM] - settings[DISCOUNT] * monthsTooOld;
            return pay < 1 ? 1 : pay;
        }

        int tellOfLot(int row, int what) {
            switch (what) {
                case 0:
                    return lots.bags[row];
                case 1:
                    return lots.cups[row];
                case 2:
                    return lots.months[row];
                case 3:
                    return lots.cupAt(row, month);
                case 4:
                    return worths[bandOf(lots.cupAt(row, month))];
                case 5:
                    return lots.monthsTooOld(row, month);
                case 6:
                    return bandOf(lots.cupAt(row, month));
                default:
                    return INVALID_ARGUMENT;
            }
        }

        int tellCount(int what) {
            switch (what) {
                case 0:
                    return lots.size;
                case 1:
                    return lots.allBags();
                case 2:
                    return month;
                case 3:
                    return contracts.size;
                case 4:
                    return account;
                case 5:
                    return contractsMet;
                case 6:
                    return contractsFailed;
                case 7:
                    return bagsGiven;
                case 8:
                    return lots.bagsToGive(month);
                case 9:
                    return lots.made;
                default:
                    return INVALID_ARGUMENT;
            }
        }
    }

    /** Which bags of which lots would be given for a contract at a price in a month. */
    private static final class Delivery {
        final int[] rows = new int[MOST_LOTS];
        final int[] bags = new int[MOST_LOTS];
        int places;
        int missing;
        int pay;
        int gain;
        int sumOfCups;
        int usedUp;
        /** Of each row: whether it still can be given, and for a bag of it its cup, pay and gain. */
        private final boolean[] waiting = new boolean[MOST_LOTS];
        private final int[] cups = new int[MOST_LOTS];
        private final int[] pays = new int[MOST_LOTS];
        private final int[] gains = new int[MOST_LOTS];

        void plan(House house, int price, int month) {
            rate(house, price, month);
            places = 0;
            missing = house.settings[BAGS_OF_CONTRACT];
            pay = 0;
            gain = 0;
            sumOfCups = 0;
            usedUp = 0;
            for (int round = 0; round < MOST_LOTS && missing > 0; round++) {
                int row = rowOfGreatestGain(house.lots.size);
                if (row >= 0) {
                    take(row, house.lots.bags[row]);
                }
            }
        }

        private void rate(House house, int price, int month) {
            for (int row = 0; row < house.lots.size; row++) {
                int cup = house.lots.cupAt(row, month);
                waiting[row] = cup >= LEAST_CUP_GIVEN;
                cups[row] = cup;
                pays[row] = house.payForBag(price, cup, house.lots.monthsTooOld(row, month));
                gains[row] = pays[row] - house.worths[bandOf(cup)];
            }
        }

        /** The lowest of several rows with the same gain; -1 if none is waiting. */
        private int rowOfGreatestGain(int size) {
            int best = -1;
            for (int row = 0; row < size; row++) {
                if (waiting[row] && (best < 0 || gains[row] > gains[best])) {
                    best = row;
                }
            }
            return best;
        }

        private void take(int row, int bagsThere) {
            if (places >= MOST_LOTS) {
                return;
            }
            int taken = Math.min(missing, bagsThere);
            rows[places] = row;
            bags[places] = taken;
            places++;
            missing -= taken;
            pay += taken * pays[row];
            gain += taken * gains[row];
            sumOfCups += taken * cups[row];
            if (taken == bagsThere) {
                usedUp++;
            }
            waiting[row] = false;
        }
    }

    /** The latest states, the oldest first. */
    private static final class History {
        private final House[] rooms = new House[MOST_STATES];
        int states;

        History() {
            for (int place = 0; place < MOST_STATES; place++) {
                rooms[place] = new House();
            }
        }

        void record(House house) {
            if (states >= MOST_STATES) {
                dropOldest();
            }
            rooms[states].copyFrom(house);
            states++;
        }

        void restoreLatest(House house) {
            if (states > 0) {
                states--;
                house.copyFrom(rooms[states]);
            }
        }

        private void dropOldest() {
            House oldest = rooms[0];
            for (int place = 1; place < MOST_STATES; place++) {
                rooms[place - 1] = rooms[place];
            }
            rooms[MOST_STATES - 1] = oldest;
            states = MOST_STATES - 1;
        }
    }

    /** The text, and how far its orders could be done when they were tried last. */
    private static final class Orders {
        private final char[] signs = new char[MOST_SIGNS];
        int length;
        /** Where the order stands that was read last: the one with the fault, if there is one. */
        int start;
        int reason;
        int cause;
        int done;
        private int next;
        private final int[] numbers = new int[MOST_NUMBERS];

        int append(char sign) {
            if (length >= MOST_SIGNS) {
                return LIMIT_REACHED;
            }
            signs[length] = sign;
            length++;
            return length;
        }

        void runOn(House house, Delivery delivery) {
            start = 0;
            reason = NO_FAULT;
            cause = 0;
            done = 0;
            for (int order = 0; order < MOST_SIGNS && start < length && reason == NO_FAULT; order++) {
                if (readOrder()) {
                    settle(perform(house, delivery));
                } else {
                    reason = BAD_FORM;
                    cause = next - start;
                }
            }
        }

        private void settle(int answer) {
            if (isError(answer)) {
                reason = BAD_CALL;
                cause = answer;
            } else {
                done++;
                start = next;
            }
        }

        /** Reads the order at the start; next is then behind it, or where it breaks off. */
        private boolean readOrder() {
            next = start;
            int wanted = numbersOf(signAt(next));
            if (wanted == 0) {
                return false;
            }
            next++;
            for (int place = 0; place < wanted; place++) {
                if (!readNumber(place) || signAt(next) != (place == wanted - 1 ? ';' : ',')) {
                    return false;
                }
                next++;
            }
            return true;
        }

        private boolean readNumber(int place) {
            int number = 0;
            int digits = 0;
            while (digits < MOST_DIGITS && isDigit(signAt(next))) {
                number = 10 * number + signAt(next) - '0';
                digits++;
                next++;
            }
            if (digits == 0 || place >= MOST_NUMBERS) {
                return false;
            }
            numbers[place] = number;
            return true;
        }

        /** A sign that can't be typed stands behind the end, so that every order breaks off there. */
        private char signAt(int place) {
            return place >= 0 && place < length && place < MOST_SIGNS ? signs[place] : (char) 0;
        }

        private static boolean isDigit(char sign) {
            return sign >= '0' && sign <= '9';
        }

        private static int numbersOf(char kind) {
            switch (kind) {
                case 'l':
                case 's':
                    return 2;
                case 'b':
                    return 4;
                case 'c':
                case 'd':
                case 'm':
                    return 1;
                default:
                    return 0;
            }
        }

        private int perform(House house, Delivery delivery) {
            switch (signAt(start)) {
                case 'l':
                    return house.bringLot(numbers[0], numbers[1]);
                case 'b':
                    return house.blendLots(numbers[0], numbers[1], numbers[2], numbers[3]);
                case 'c':
                    return house.cupAnew(numbers[0]);
                case 's':
                    return house.sellContract(numbers[0], numbers[1]);
                case 'd':
                    return house.meetContract(numbers[0], delivery);
                case 'm':
                    return house.passMonths(numbers[0]);
                default:
                    return INVALID_ARGUMENT;
            }
        }
    }
}
