/** Promises 12 to 20. */
public final class TellingTest {
    private static final int LEAST = Integer.MIN_VALUE;
    private static final int MOST = Integer.MAX_VALUE;

    private TellingTest() {
    }

    public static void main(String[] args) {
        promise12LotOf();
        promise13NumberOf();
        promise14ContractOf();
        promise15Paid();
        promise15PaidAtTheEdges();
        promise16Given();
        promise16GivenErrors();
        promise17Would();
        promise17MeanCups();
        promise17WouldErrors();
        promise18Lift();
        promise18LiftToTheSameCup();
        promise18LiftBeyondTheLimits();
        promise18LiftErrors();
        promise19BestMonth();
        promise19BestMonthAtTheEdges();
        promise20Count();
        Check.end("TellingTest");
    }

    private static void promise12LotOf() {
        CupReceipts x = new CupReceipts();
        x.pass(2);
        x.lot(30, 90);
        int[] first = {30, 90, 2, 90, 300, 0, 3};
        for (int what = 0; what < 7; what++) {
            Check.equal("lotOf " + what, x.lotOf(0, what), first[what]);
        }
        x.pass(3);
        Check.equal("3 months old", x.lotOf(0, 5), 0);
        x.pass(1);
        Check.equal("4 months old", x.lotOf(0, 5), 1);
        int[] later = {30, 90, 2, 89, 200, 1, 2};
        for (int what = 0; what < 7; what++) {
            Check.equal("later lotOf " + what, x.lotOf(0, what), later[what]);
        }
        x.pass(24);
        Check.equal("28 months old", x.lotOf(0, 5), 25);
        int[] wrong = {-1, 7, LEAST, MOST};
        for (int what : wrong) {
            Check.equal("lotOf " + what, x.lotOf(0, what), Check.INVALID);
            Check.equal("lot " + what, x.lotOf(what, 0), Check.INVALID);
        }
        Check.equal("no such lot", x.lotOf(1, 0), Check.INVALID);
    }

    private static void promise13NumberOf() {
        CupReceipts x = new CupReceipts();
        x.lot(5, 90);
        x.lot(5, 80);
        x.lot(5, 70);
        x.blend(1, 5, 2, 1);
        int[] numbers = {0, 2, 3, Check.MISSING};
        for (int index = 0; index < 4; index++) {
            Check.equal("numberOf " + index, x.numberOf(index), numbers[index]);
        }
        Check.equal("numberOf", x.numberOf(MOST), Check.MISSING);
        Check.equal("numberOf", x.numberOf(12), Check.MISSING);
        Check.equal("numberOf", x.numberOf(-1), Check.INVALID);
        Check.equal("numberOf", x.numberOf(LEAST), Check.INVALID);
        Check.equal("part", x.part(0, 1), 4);
        Check.equal("the new one is last", x.numberOf(3), 4);
    }

    private static void promise14ContractOf() {
        CupReceipts x = new CupReceipts();
        x.sell(8, 70);
        x.sell(2, 60);
        x.sell(8, 50);
        x.pass(1);
        int[][] due = {{8, 70, 7}, {2, 60, 1}, {8, 50, 7}};
        for (int contract = 0; contract < 3; contract++) {
            for (int what = 0; what < 3; what++) {
                Check.equal("contractOf", x.contractOf(contract, what), due[contract][what]);
            }
        }
        int[] wrong = {-1, 3, LEAST, MOST};
        for (int what : wrong) {
            Check.equal("contractOf", x.contractOf(0, what), Check.INVALID);
            Check.equal("contractOf", x.contractOf(what, 0), Check.INVALID);
        }
        x.pass(2);
        Check.equal("one has failed", x.contractOf(1, 1), 50);
        Check.equal("month of it", x.contractOf(1, 2), 5);
        Check.equal("none behind it", x.contractOf(2, 0), Check.INVALID);
    }

    private static void promise15Paid() {
        CupReceipts x = new CupReceipts();
        x.lot(10, 84);
        x.lot(10, 70);
        x.lot(10, 69);
        x.lot(10, 100);
        Check.equal("premium", x.paid(0, 200, 0), 212);
        Check.equal("gain", x.paid(0, 200, 1), 10012);
        Check.equal("below 80", x.paid(1, 200, 0), 170);
        Check.equal("cannot be given", x.paid(2, 200, 0), Check.MISSING);
        Check.equal("cannot be given", x.paid(2, 200, 1), Check.MISSING);
        Check.equal("greatest", x.paid(3, 999, 0), 1059);
        x.pass(3);
        Check.equal("3 months", x.paid(0, 200, 0), 212);
        x.pass(1);
        Check.equal("4 months: cup 83, 1 too old", x.paid(0, 200, 0), 200 + 9 - 2);
        Check.equal("70 has fallen", x.paid(1, 200, 0), Check.MISSING);
        x.pass(10);
        Check.equal("14 months: cup 81, 11 too old", x.paid(0, 200, 0), 200 + 3 - 22);
        Check.equal("gain", x.paid(0, 200, 1), 10000 + 181 - 200);
    }

    private static void promise15PaidAtTheEdges() {
        CupReceipts x = new CupReceipts();
        x.lot(10, 75);
        x.set(2, 50);
        Check.equal("just 1", x.paid(0, 251, 0), 1);
        Check.equal("at least 1", x.paid(0, 250, 0), 1);
        Check.equal("at least 1", x.paid(0, 1, 0), 1);
        Check.equal("2", x.paid(0, 252, 0), 2);
        Check.equal("gain of 1", x.paid(0, 1, 1), 10000 + 1 - 150);
        x.worth(1, 999);
        Check.equal("least gain", x.paid(0, 1, 1), 10000 - 998);
        x.worth(1, 1);
        Check.equal("gain", x.paid(0, 999, 1), 10000 + 748);
        int[][] wrong = {{1, 5, 0}, {-1, 5, 0}, {0, 0, 0}, {0, 1000, 0}, {0, 5, -1}, {0, 5, 2}, {LEAST, 5, 0},
            {0, LEAST, 0}, {0, MOST, 0}, {0, 5, LEAST}, {0, 5, MOST}};
        for (int[] one : wrong) {
            Check.equal("paid", x.paid(one[0], one[1], one[2]), Check.INVALID);
        }
        x.lot(1, 60);
        Check.equal("wrong price of one that cannot be given", x.paid(1, 0, 0), Check.INVALID);
        Check.equal("wrong what of one that cannot be given", x.paid(1, 1, 2), Check.INVALID);
    }

    private static void promise16Given() {
        CupReceipts x = new CupReceipts();
        x.set(0, 20);
        x.lot(4, 80);
        x.lot(9, 72);
        x.lot(8, 80);
        x.lot(99, 69);
        x.lot(3, 95);
        x.sell(11, 300);
        // gains for a bag: 80: 100, 72: 300 - 24 - 150 = 126, 95: 300 + 45 - 300 = 45
        int[][] due = {{1, 9}, {0, 4}, {2, 7}};
        for (int place = 0; place < 3; place++) {
            Check.equal("given lot", x.given(0, place, 0), due[place][0]);
            Check.equal("given bags", x.given(0, place, 1), due[place][1]);
        }
        Check.equal("no more", x.given(0, 3, 0), Check.MISSING);
        Check.equal("no more", x.given(0, MOST, 1), Check.MISSING);
        x.worth(3, 1);
        Check.equal("greatest gain", x.given(0, 0, 0), 4);
        Check.equal("the rest", x.given(0, 3, 1), 4);
        x.blend(2, 8, 3, 99);
        Check.equal("not enough: all are told", x.given(0, 1, 0), 1);
        Check.equal("not enough: all are told", x.given(0, 2, 1), 4);
        Check.equal("not enough: no more", x.given(0, 3, 0), Check.MISSING);
        Check.equal("nothing is given by it", x.count(7), 0);
    }

    private static void promise16GivenErrors() {
        CupReceipts x = new CupReceipts();
        Check.equal("none is open", x.given(0, 0, 0), Check.INVALID);
        x.sell(2, 5);
        Check.equal("no lots", x.given(0, 0, 0), Check.MISSING);
        int[][] wrong = {{1, 0, 0}, {-1, 0, 0}, {0, -1, 0}, {0, 0, -1}, {0, 0, 2}, {0, LEAST, 0}, {LEAST, 0, 0},
            {MOST, 0, 0}, {0, 0, MOST}, {0, 0, LEAST}};
        for (int[] one : wrong) {
            Check.equal("given", x.given(one[0], one[1], one[2]), Check.INVALID);
        }
        x.lot(1, 70);
        Check.equal("a bag", x.given(0, 0, 1), 1);
    }

    private static void promise17Would() {
        CupReceipts x = new CupReceipts();
        x.set(0, 10);
        x.lot(3, 80);
        x.lot(4, 71);
        x.lot(9, 85);
        x.sell(6, 150);
        // 85: 165 - 200 = -35; 80: 150 - 200 = -50; 71: 123 - 150 = -27
        Check.equal("paid", x.would(0, 0), 4 * 123 + 6 * 165);
        Check.equal("gain", x.would(0, 1), 1000000 - 4 * 27 - 6 * 35);
        Check.equal("used up", x.would(0, 2), 1);
        Check.equal("mean", x.would(0, 3), Float.floatToIntBits((float) (4 * 71 + 6 * 85) / 10f));
        x.pass(4);
        // 84: 162 - 2 - 200 = -40, 79: 147 - 2 - 150 = -5, 70: 120 - 2 - 150 = -32
        Check.equal("paid", x.would(0, 0), 3 * 145 + 4 * 118 + 3 * 160);
        Check.equal("gain", x.would(0, 1), 1000000 - 3 * 5 - 4 * 32 - 3 * 40);
        Check.equal("used up", x.would(0, 2), 2);
        float mean = (float) (3 * 79 + 4 * 70 + 3 * 84) / 10f;
        Check.equal("mean of the cups now", x.would(0, 3), Float.floatToIntBits(mean));
        x.pass(2);
        int told = x.would(0, 0);
        Check.equal("meet pays as told", x.meet(0), told);
    }

    private static void promise17MeanCups() {
        for (int bags = 1; bags <= 250; bags += 3) {
            CupReceipts x = new CupReceipts();
            x.set(0, bags);
            x.lot(999, 70);
            x.lot((bags + 1) / 2, 100);
            x.worth(3, 1);
            x.sell(2, 900);
            int fine = (bags + 1) / 2;
            float mean = (float) (fine * 100 + (bags - fine) * 70) / (float) bags;
            Check.equal("mean of " + bags, x.would(0, 3), Float.floatToIntBits(mean));
        }
        CupReceipts x = new CupReceipts();
        x.lot(100, 70);
        x.sell(2, 900);
        Check.equal("least mean", x.would(0, 3), Float.floatToIntBits(70f));
        x.lot(101, 100);
        x.worth(3, 1);
        Check.equal("greatest mean", x.would(0, 3), Float.floatToIntBits(100f));
        Check.equal("no lot is used up", x.would(0, 2), 0);
    }

    private static void promise17WouldErrors() {
        CupReceipts x = new CupReceipts();
        Check.equal("none is open", x.would(0, 0), Check.INVALID);
        x.sell(2, 5);
        x.lot(99, 80);
        x.lot(99, 69);
        int[][] wrong = {{1, 0}, {-1, 0}, {0, -1}, {0, 4}, {LEAST, 0}, {MOST, 0}, {0, LEAST}, {0, MOST}};
        for (int[] one : wrong) {
            Check.equal("would", x.would(one[0], one[1]), Check.INVALID);
        }
        for (int what = 0; what < 4; what++) {
            Check.equal("not enough", x.would(0, what), Check.IMPOSSIBLE);
        }
        x.lot(1, 70);
        Check.equal("just enough", x.would(0, 2), 2);
    }

    private static void promise18Lift() {
        CupReceipts x = new CupReceipts();
        x.lot(30, 69);
        x.lot(50, 92);
        Check.equal("rounded up", x.lift(0, 1, 80), 28);
        Check.equal("exactly", x.lift(0, 1, 71), 3);
        Check.equal("is there already", x.lift(0, 1, 69), 1);
        Check.equal("far below", x.lift(0, 1, 60), 1);
        Check.equal("all the bags", x.lift(0, 1, 83), 47);
        // 30 * 15 / 8 = 56.25: more bags than the other lot has
        Check.equal("more than its bags", x.lift(0, 1, 84), Check.MISSING);
        Check.equal("its own cup", x.lift(0, 1, 92), Check.MISSING);
        Check.equal("above it", x.lift(0, 1, 93), Check.MISSING);
        Check.equal("by a lower one", x.lift(1, 0, 91), 1);
        Check.equal("by a lower one", x.lift(1, 0, 92), Check.MISSING);
        x.lot(1, 92);
        Check.equal("one bag with one of a lower cup", x.lift(2, 0, 80), 1);
        Check.equal("one bag with one of a lower cup", x.lift(2, 0, 81), Check.MISSING);
        Check.equal("one bag", x.lift(2, 0, 69), 1);
        x.lot(80, 91);
        x.pass(4);
        Check.equal("cups of now: 68 and 90", x.lift(0, 3, 80), 36);
        Check.equal("just all bags: 30 * 12 / 10 = 36", x.lift(0, x.part(3, 36), 80), 36);
        Check.equal("one bag less", x.lift(0, x.part(4, 35), 80), Check.MISSING);
        Check.equal("not a change", x.count(10), 4);
        Check.equal("bags stay", x.lotOf(0, 0), 30);
    }

    private static void promise18LiftToTheSameCup() {
        CupReceipts x = new CupReceipts();
        x.lot(3, 80);
        x.lot(3, 80);
        Check.equal("all the same", x.lift(0, 1, 80), 1);
        Check.equal("below", x.lift(0, 1, 79), 1);
        Check.equal("above", x.lift(0, 1, 81), Check.MISSING);
        x.lot(3, 100);
        Check.equal("100 needs 100", x.lift(0, 2, 100), Check.MISSING);
        x.lot(1, 100);
        Check.equal("100 with 100", x.lift(2, 3, 100), 1);
        x.lot(5, 78);
        x.lot(10, 81);
        x.lot(10, 83);
        Check.equal("by 1 a bag", x.lift(4, 5, 80), 10);
        Check.equal("10 by 3 a bag", x.lift(4, 6, 80), 4);
        Check.equal("5 by 4 a bag", x.lift(4, 6, 79), 2);
        Check.equal("15 by 2 a bag", x.lift(4, 6, 81), 8);
    }

    private static void promise18LiftBeyondTheLimits() {
        CupReceipts x = new CupReceipts();
        int big = x.lot(999, 70);
        for (int turn = 0; turn < 9; turn++) {
            big = x.blend(big, x.lotOf(big, 0), x.lot(999, 70), 999);
        }
        int other = x.lot(999, 100);
        Check.equal("more than 9999 bags together", x.lift(big, other, 72), 714);
        while (x.count(0) < 12) {
            x.lot(1, 60);
        }
        Check.equal("the house is full", x.lift(big, other, 72), 714);
    }

    private static void promise18LiftErrors() {
        CupReceipts x = new CupReceipts();
        x.lot(3, 80);
        x.lot(3, 90);
        int[][] wrong = {{0, 0, 80}, {0, 2, 80}, {2, 0, 80}, {-1, 0, 80}, {0, -1, 80}, {2, 2, 80}, {0, 1, 59},
            {0, 1, 101}, {LEAST, 1, 80}, {0, MOST, 80}, {0, 1, LEAST}, {0, 1, MOST}};
        for (int[] one : wrong) {
            Check.equal("lift", x.lift(one[0], one[1], one[2]), Check.INVALID);
        }
        Check.equal("least cup", x.lift(0, 1, 60), 1);
        Check.equal("greatest cup", x.lift(0, 1, 100), Check.MISSING);
    }

    private static void promise19BestMonth() {
        CupReceipts x = new CupReceipts();
        x.lot(100, 90);
        // now 230 - 300; in 4 months cup 89, 1 too old: 225 - 200 = 25; in 2: -70 as well; in 6: 221 - 200
        Check.equal("month", x.bestMonth(200, 0), 4);
        Check.equal("gain", x.bestMonth(200, 1), 1000000 + 100 * 25);
        Check.equal("this month is no delivery month", x.sell(0, 5), Check.IMPOSSIBLE);
        x.set(3, 0);
        // without a discount in 4 and 6: 227 - 200 and 227 - 200
        Check.equal("the earliest of several", x.bestMonth(200, 0), 4);
        Check.equal("gain", x.bestMonth(200, 1), 1002700);
        x.pass(4);
        Check.equal("from now on", x.bestMonth(200, 0), 0);
        x.sell(4, 200);
        Check.equal("open contracts take no bags", x.bestMonth(200, 0), 0);
        x.pass(1);
        Check.equal("in how many months", x.bestMonth(200, 0), 1);
        x.set(0, 101);
        Check.equal("not enough", x.bestMonth(200, 0), Check.MISSING);
        Check.equal("not enough", x.bestMonth(200, 1), Check.MISSING);
        int[][] wrong = {{0, 0}, {1000, 0}, {5, -1}, {5, 2}, {LEAST, 0}, {MOST, 0}, {5, LEAST}, {5, MOST}};
        for (int[] one : wrong) {
            Check.equal("bestMonth", x.bestMonth(one[0], one[1]), Check.INVALID);
        }
    }

    private static void promise19BestMonthAtTheEdges() {
        CupReceipts x = new CupReceipts();
        x.set(0, 1);
        x.set(1, 1 << 11);
        x.lot(5, 80);
        Check.equal("11", x.bestMonth(5, 0), 11);
        x.lot(5, 100);
        // 100 in 23 months: 95, worth 300, or 80: 75, worth 150, as the worths are at first
        x.worth(1, 999);
        x.worth(2, 1);
        x.set(3, 0);
        Check.equal("80 falls below 80; 100 stays above 90", x.bestMonth(999, 0), 11);
        x.set(2, 0);
        x.worth(1, 1);
        Check.equal("the same in 11 and 23", x.bestMonth(999, 0), 11);
        x.set(1, 1);
        x.worth(1, 999);
        Check.equal("now", x.bestMonth(999, 0), 0);
        Check.equal("gain", x.bestMonth(999, 1), 1000998);
        laterIsBetter();
        fallsBelow70();
        beyondMonth999();
    }

    private static void laterIsBetter() {
        CupReceipts x = new CupReceipts();
        x.set(0, 1);
        x.set(1, 1 << 11);
        x.lot(5, 84);
        x.set(3, 0);
        x.set(2, 0);
        x.worth(1, 1);
        Check.equal("the last of 24 months", x.bestMonth(300, 0), 23);
        Check.equal("gain", x.bestMonth(300, 1), 1000299);
        x.set(1, 1);
        Check.equal("24 months ahead is too far", x.bestMonth(300, 0), 0);
        x.pass(1);
        Check.equal("23 months ahead", x.bestMonth(300, 0), 23);
        Check.equal("least price", x.bestMonth(1, 1), 1000000);
        Check.equal("greatest price", x.bestMonth(999, 1), 1000998);
    }

    private static void fallsBelow70() {
        CupReceipts x = new CupReceipts();
        x.set(0, 1);
        x.lot(5, 70);
        Check.equal("in two months it can be given", x.bestMonth(300, 0), 2);
        x.set(1, 1 << 4);
        Check.equal("in four it cannot", x.bestMonth(300, 0), Check.MISSING);
    }

    private static void beyondMonth999() {
        CupReceipts x = new CupReceipts();
        for (int turn = 0; turn < 41; turn++) {
            x.pass(24);
        }
        x.pass(15);
        x.set(0, 1);
        x.lot(5, 84);
        x.set(1, 1 << 5);
        // 999 is 3 modulo 12, so 1001 is 5
        Check.equal("beyond 999", x.bestMonth(300, 0), 2);
    }

    private static void promise20Count() {
        CupReceipts x = new CupReceipts();
        int[] wrong = {-1, 12, 19, 25, LEAST, MOST};
        for (int what : wrong) {
            Check.equal("count " + what, x.count(what), Check.INVALID);
        }
        x.set(0, 10);
        x.set(1, 4095);
        x.lot(30, 80);
        x.lot(20, 70);
        x.lot(7, 69);
        x.sell(0, 100);
        x.sell(0, 100);
        x.sell(5, 100);
        x.meet(0);
        x.pass(4);
        Check.write(x, "l1");
        x.lot(5, 70);
        // paid: 100 a bag of 80 (gain -100) or 70 a bag of 70 (gain -80): ten of lot 1, which is of 69 now
        int[] due = {4, 52, 4, 1, 700 - 200, 1, 1, 10, 35, 4, 4, 2};
        for (int what = 0; what < due.length; what++) {
            Check.equal("count " + what, x.count(what), due[what]);
        }
        int[] settings = {10, 4095, 3, 2, 20};
        for (int what = 0; what < 5; what++) {
            Check.equal("count " + (20 + what), x.count(20 + what), settings[what]);
        }
    }
}
