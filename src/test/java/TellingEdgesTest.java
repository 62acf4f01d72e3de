/** The boundary cases of the promises 12 to 20: a test for each sentence that names one. */
public final class TellingEdgesTest {
    private static final int MOST = Check.MOST;

    private TellingEdgesTest() {
    }

    public static void main(String[] args) {
        Check.runAll(TellingEdgesTest.class);
    }

    // Promise 12: lotOf

    private static void promise12NoSuchLot() {
        for (int what = 0; what <= 6; what++) {
            int asked = what;
            Check.range("lot, what " + what, 0, 11, lot -> Make.twelveLots().lotOf(lot, asked));
            Check.range("of one left, what " + what, 2, 2, lot -> oneIsLeft().lotOf(lot, asked));
            Check.equal("of none, what " + what, new CupReceipts().lotOf(0, what), Check.INVALID);
        }
    }

    private static CupReceipts oneIsLeft() {
        CupReceipts x = Make.lots(5, 80, 5, 80);
        x.blend(0, 5, 1, 5);
        return x;
    }

    /** "what: 0: its bags; ... 6: its band" */
    private static void promise12What0To6() {
        Check.range("what", 0, 6, what -> Make.lots(5, 80).lotOf(0, what));
    }

    private static void promise12EachWhat() {
        CupReceipts x = new CupReceipts();
        x.pass(7);
        x.lot(9, 90);
        x.worth(2, 222);
        x.pass(8);
        int[] due = {9, 90, 7, 88, 222, 5, 2};
        for (int what = 0; what <= 6; what++) {
            Check.equal("what " + what, x.lotOf(0, what), due[what]);
        }
    }

    /** "how many months its certificate is older than 3 months (0 if it is not)" */
    private static void promise12OlderThan3Months() {
        for (int months = 0; months <= 24; months++) {
            CupReceipts x = Make.atMonth(1);
            x.lot(5, 80);
            Make.passTo(x, 1 + months);
            Check.equal("after " + months, x.lotOf(0, 5), months < 3 ? 0 : months - 3);
        }
        CupReceipts y = Make.lots(5, 80);
        Make.passTo(y, 999);
        Check.equal("after 999", y.lotOf(0, 5), 996);
    }

    private static void promise12MostBags() {
        CupReceipts x = Make.bigLot();
        int most = x.blend(x.numberOf(0), 9990, x.lot(9, 80), 9);
        Check.equal("bags", x.lotOf(most, 0), 9999);
        Check.equal("all bags", x.count(1), 9999);
    }

    // Promise 13: numberOf

    /** "INVALID_ARGUMENT if index is negative" */
    private static void promise13IndexIsNegative() {
        Check.range("index", 0, MOST, index -> Make.lots(5, 80).numberOf(index));
        Check.equal("-1 of none", new CupReceipts().numberOf(-1), Check.INVALID);
        Check.equal("-1 of 12", Make.twelveLots().numberOf(-1), Check.INVALID);
    }

    /** "NOT_FOUND if there are not so many" */
    private static void promise13NotSoMany() {
        Check.equal("0 of none", new CupReceipts().numberOf(0), Check.MISSING);
        Check.equal("0 of one", Make.lots(5, 80).numberOf(0), 0);
        Check.equal("1 of one", Make.lots(5, 80).numberOf(1), Check.MISSING);
        Check.equal("11 of 12", Make.twelveLots().numberOf(11), 11);
        Check.equal("12 of 12", Make.twelveLots().numberOf(12), Check.MISSING);
        Check.equal("the most of 12", Make.twelveLots().numberOf(MOST), Check.MISSING);
    }

    /** "index: 0 for the one with the lowest number, and so on" */
    private static void promise13LowestNumberFirst() {
        CupReceipts x = Make.lots(5, 80, 5, 80, 5, 80, 5, 80);
        x.blend(0, 5, 2, 5);
        int[] numbers = {1, 3, 4};
        for (int index = 0; index < 3; index++) {
            Check.equal("index " + index, x.numberOf(index), numbers[index]);
        }
        Check.equal("index 3", x.numberOf(3), Check.MISSING);
    }

    // Promise 14: contractOf

    private static void promise14NoSuchContract() {
        for (int what = 0; what <= 2; what++) {
            int asked = what;
            Check.range("of six", 0, 5, contract -> Make.sixContracts().contractOf(contract, asked));
            Check.equal("of none", new CupReceipts().contractOf(0, what), Check.INVALID);
        }
    }

    /** "what: 0: its month; 1: its price; 2: in how many months that is" */
    private static void promise14What0To2() {
        Check.range("what", 0, 2, what -> Make.sixContracts().contractOf(0, what));
    }

    private static void promise14InHowManyMonths() {
        CupReceipts x = Make.oneBagContracts();
        x.sell(0, 1);
        x.sell(999, 999);
        Check.equal("this month", x.contractOf(0, 2), 0);
        Check.equal("the last month", x.contractOf(1, 2), 999);
        x.pass(1);
        Check.equal("a month later", x.contractOf(0, 2), 998);
        Make.passTo(x, 999);
        Check.equal("in its month", x.contractOf(0, 2), 0);
        Check.equal("month", x.contractOf(0, 0), 999);
        Check.equal("price", x.contractOf(0, 1), 999);
    }

    // Promise 15: paid

    private static void promise15NoSuchLot() {
        Check.range("lot", 0, 11, lot -> Make.twelveLots().paid(lot, 5, 0));
        Check.range("of one left", 2, 2, lot -> oneIsLeft().paid(lot, 5, 1));
        Check.equal("of none", new CupReceipts().paid(0, 5, 0), Check.INVALID);
    }

    /** "price: 1 to 999" */
    private static void promise15Price1To999() {
        Check.range("price", 1, 999, price -> Make.lots(5, 80).paid(0, price, 0));
        Check.equal("1", Make.lots(5, 80).paid(0, 1, 0), 1);
        Check.equal("999", Make.lots(5, 80).paid(0, 999, 0), 999);
    }

    /** "what: 0: what is paid; 1: the gain plus 10000" */
    private static void promise15What0To1() {
        Check.range("what", 0, 1, what -> Make.lots(5, 80).paid(0, 5, what));
    }

    /** "NOT_FOUND if it cannot be given"; "a lot with a cup now of at least 70 can be given" */
    private static void promise15CannotBeGiven() {
        for (int what = 0; what <= 1; what++) {
            Check.equal("60", Make.lots(5, 60).paid(0, 5, what), Check.MISSING);
            Check.equal("69", Make.lots(5, 69).paid(0, 5, what), Check.MISSING);
            Check.isTrue("70", Make.lots(5, 70).paid(0, 5, what) > 0);
            CupReceipts x = Make.lots(5, 70);
            x.pass(3);
            Check.isTrue("70 after 3 months", x.paid(0, 5, what) > 0);
            x.pass(1);
            Check.equal("70 after 4 months", x.paid(0, 5, what), Check.MISSING);
        }
    }

    private static void promise15InvalidRatherThanNotFound() {
        Check.equal("price", Make.lots(5, 69).paid(0, 0, 0), Check.INVALID);
        Check.equal("price", Make.lots(5, 69).paid(0, 1000, 0), Check.INVALID);
        Check.equal("what", Make.lots(5, 69).paid(0, 5, 2), Check.INVALID);
        Check.equal("what", Make.lots(5, 69).paid(0, 5, -1), Check.INVALID);
    }

    /** "its cup now less 80, which may be below 0" */
    private static void promise15PremiumByCup() {
        int[] cups = {70, 79, 80, 81, 100};
        int[] premiums = {0, 1, 50};
        for (int cup : cups) {
            for (int premium : premiums) {
                CupReceipts x = Make.lots(5, cup);
                x.set(2, premium);
                int due = Math.max(1, 600 + (cup - 80) * premium);
                Check.equal("cup " + cup + " premium " + premium, x.paid(0, 600, 0), due);
            }
        }
    }

    /** "its cup now", not that of its certificate */
    private static void promise15PremiumByTheCupNow() {
        CupReceipts x = Make.lots(5, 84);
        x.set(2, 10);
        x.set(3, 0);
        x.pass(3);
        Check.equal("84", x.paid(0, 600, 0), 640);
        x.pass(1);
        Check.equal("83", x.paid(0, 600, 0), 630);
        x.pass(20);
        Check.equal("78", x.paid(0, 600, 0), 580);
    }

    /** "less setting 3 times how many months its certificate is older than 3 months" */
    private static void promise15DiscountByAge() {
        int[] discounts = {0, 1, 50};
        for (int discount : discounts) {
            CupReceipts x = Make.lots(5, 90);
            x.set(2, 0);
            x.set(3, discount);
            for (int months = 0; months <= 8; months++) {
                Check.equal("after " + months, x.paid(0, 600, 0), 600 - discount * Math.max(0, months - 3));
                x.pass(1);
            }
        }
    }

    /** "but at least 1" */
    private static void promise15AtLeast1() {
        CupReceipts x = Make.lots(5, 70);
        Check.equal("32 less 30", x.paid(0, 32, 0), 2);
        Check.equal("31 less 30", x.paid(0, 31, 0), 1);
        Check.equal("30 less 30", x.paid(0, 30, 0), 1);
        Check.equal("1 less 30", x.paid(0, 1, 0), 1);
        CupReceipts y = Make.lots(5, 99);
        y.set(3, 50);
        y.pass(24);
        Check.equal("93 and 21 months: 1000 less", y.paid(0, 999, 0), 1);
        Check.equal("its gain", y.paid(0, 999, 1), 10000 + 1 - 300);
    }

    /** "Its gain is what is paid less its worth." */
    private static void promise15Gain() {
        CupReceipts x = Make.lots(5, 70, 5, 100);
        x.worth(1, 999);
        x.worth(3, 1);
        Check.equal("the least", x.paid(0, 1, 1), 9002);
        x.set(2, 50);
        Check.equal("the greatest", x.paid(1, 999, 1), 10000 + 1999 - 1);
        x.worth(3, 999);
        x.set(2, 0);
        Check.equal("none", x.paid(1, 999, 1), 10000);
        CupReceipts y = Make.lots(5, 80);
        y.set(3, 0);
        y.pass(3);
        Check.equal("80", y.paid(0, 400, 1), 10200);
        y.pass(1);
        Check.equal("79 is worth less", y.paid(0, 400, 1), 10000 + 397 - 150);
    }

    // Promise 16: given

    private static void promise16NoSuchContract() {
        Check.range("of six", 0, 5, contract -> Make.sixContracts().given(contract, 0, 0));
        Check.equal("of none", Make.lots(5, 80).given(0, 0, 0), Check.INVALID);
    }

    /** "or place is negative" */
    private static void promise16PlaceIsNegative() {
        Check.range("place", 0, MOST, place -> contractFor(5, 80).given(0, place, 0));
        Check.equal("-1 of no lots", contractFor().given(0, -1, 0), Check.INVALID);
    }

    /** "what: 0: the lot; 1: how many bags of it" */
    private static void promise16What0To1() {
        Check.range("what", 0, 1, what -> contractFor(5, 80).given(0, 0, what));
        Check.equal("what of a place that is not there", contractFor(5, 80).given(0, 9, 2), Check.INVALID);
    }

    /** A contract of 100 bags at 200 for month 2. */
    private static CupReceipts contractFor(int... bagsAndCups) {
        CupReceipts x = Make.lots(bagsAndCups);
        x.sell(2, 200);
        return x;
    }

    /** "NOT_FOUND if there are not so many" */
    private static void promise16NotSoMany() {
        CupReceipts x = contractFor(60, 80, 60, 80, 60, 80);
        Check.equal("the second", x.given(0, 1, 1), 40);
        Check.equal("the third", x.given(0, 2, 0), Check.MISSING);
        Check.equal("the most", x.given(0, MOST, 0), Check.MISSING);
        CupReceipts y = contractFor(100, 80, 60, 80);
        Check.equal("all of one", y.given(0, 0, 1), 100);
        Check.equal("none of the other", y.given(0, 1, 1), Check.MISSING);
        Check.equal("without lots", contractFor().given(0, 0, 0), Check.MISSING);
        Check.equal("without lots that can be given", contractFor(500, 69).given(0, 0, 0), Check.MISSING);
    }

    /** "of a contract for which there are not enough bags, all that could be given are told" */
    private static void promise16NotEnoughBags() {
        CupReceipts x = contractFor(60, 80, 30, 69, 39, 81);
        Check.equal("first", x.given(0, 0, 0), 2);
        Check.equal("its bags", x.given(0, 0, 1), 39);
        Check.equal("second", x.given(0, 1, 0), 0);
        Check.equal("its bags", x.given(0, 1, 1), 60);
        Check.equal("no more", x.given(0, 2, 0), Check.MISSING);
        Check.equal("not enough", x.would(0, 0), Check.IMPOSSIBLE);
    }

    private static void promise16AllTwelveLots() {
        CupReceipts x = Make.twelveLots();
        x.set(0, 111);
        x.sell(2, 200);
        for (int place = 0; place < 12; place++) {
            Check.equal("lot", x.given(0, place, 0), place);
            Check.equal("bags", x.given(0, place, 1), place == 11 ? 1 : 10);
        }
        Check.equal("no 13th", x.given(0, 12, 0), Check.MISSING);
    }

    /** "now, whatever its month is" */
    private static void promise16WhateverItsMonth() {
        CupReceipts x = Make.lots(60, 80, 60, 70);
        x.sell(998, 200);
        Check.equal("now, 80 is first: 0 and 20", x.given(0, 0, 0), 1);
        Check.equal("its bags", x.given(0, 0, 1), 60);
        x.pass(4);
        Check.equal("70 has fallen, 79 is left", x.given(0, 0, 0), 0);
        Check.equal("no more", x.given(0, 1, 0), Check.MISSING);
    }

    /** "from the lots with the greatest gain first, of several from that of the lowest number" */
    private static void promise16Order() {
        CupReceipts x = contractFor(9, 80, 9, 81, 9, 80, 9, 81);
        int[] lots = {1, 3, 0, 2};
        for (int place = 0; place < 4; place++) {
            Check.equal("place " + place, x.given(0, place, 0), lots[place]);
        }
    }

    /** The gain of a bag for which at least 1 is paid is by that 1. */
    private static void promise16OrderWhereAtLeast1IsPaid() {
        CupReceipts x = Make.lots(9, 80, 9, 75);
        x.set(2, 50);
        x.sell(2, 1);
        Check.equal("1 less 150", x.given(0, 0, 0), 1);
        Check.equal("1 less 200", x.given(0, 1, 0), 0);
    }

    // Promise 17: would

    private static void promise17NoSuchContract() {
        Check.range("of six", 0, 5, contract -> Make.sixContracts().would(contract, 0));
        Check.equal("of none", Make.lots(500, 80).would(0, 0), Check.INVALID);
    }

    private static void promise17What0To3() {
        Check.range("what", 0, 3, what -> contractFor(100, 80).would(0, what));
        Check.range("what, without bags", 0, 3, what -> contractFor().would(0, what));
    }

    /** "NOT_POSSIBLE if there are not enough bags" */
    private static void promise17NotEnoughBags() {
        for (int what = 0; what <= 3; what++) {
            Check.equal("none", contractFor().would(0, what), Check.IMPOSSIBLE);
            Check.equal("99", contractFor(99, 80).would(0, what), Check.IMPOSSIBLE);
            Check.equal("99 and 500 of 69", contractFor(99, 80, 500, 69).would(0, what), Check.IMPOSSIBLE);
            Check.isTrue("100", contractFor(100, 80).would(0, what) >= 0);
        }
    }

    /** "whatever its month is" */
    private static void promise17WhateverItsMonth() {
        CupReceipts x = contractFor(100, 80);
        Check.equal("paid", x.would(0, 0), 20000);
        Check.equal("but not met", x.meet(0), Check.IMPOSSIBLE);
        x.pass(2);
        Check.equal("paid", x.would(0, 0), 20000);
        Check.equal("met", x.meet(0), 20000);
    }

    /** "would bring now": cups and ages are those of this month, not of its month. */
    private static void promise17AsOfNow() {
        CupReceipts x = Make.lots(100, 84);
        x.sell(998, 200);
        Check.equal("paid", x.would(0, 0), 21200);
        Check.equal("gain", x.would(0, 1), 1001200);
        Check.equal("mean cup", x.would(0, 3), Float.floatToIntBits(84f));
        x.pass(8);
        Check.equal("82 and 5 months too old", x.would(0, 0), 19600);
        Check.equal("gain", x.would(0, 1), 999600);
        Check.equal("mean cup", x.would(0, 3), Float.floatToIntBits(82f));
    }

    /** "1: the gain together plus 1000000" */
    private static void promise17GainTogether() {
        CupReceipts x = Make.lots(250, 70);
        x.set(0, 250);
        x.worth(1, 999);
        x.sell(2, 1);
        Check.equal("the least", x.would(0, 1), 1000000 - 250 * 998);
        CupReceipts y = Make.lots(250, 100);
        y.set(0, 250);
        y.set(2, 50);
        y.worth(3, 1);
        y.sell(2, 999);
        Check.equal("the greatest", y.would(0, 1), 1000000 + 250 * 1998);
        Check.equal("the most that is paid", y.would(0, 0), 250 * 1999);
        Check.equal("none", contractFor(100, 80).would(0, 1), 1000000);
        CupReceipts z = contractFor(40, 79, 50, 81, 30, 80, 5, 90);
        Check.equal("of three lots", z.would(0, 1), 1000000 + 40 * 47 + 50 * 3 + 10 * 0);
        Check.equal("paid for three lots", z.would(0, 0), 40 * 197 + 50 * 203 + 10 * 200);
    }

    /** "2: how many lots would be used up" */
    private static void promise17LotsUsedUp() {
        Check.equal("none", contractFor(101, 80).would(0, 2), 0);
        Check.equal("just one", contractFor(100, 80).would(0, 2), 1);
        Check.equal("one of two", contractFor(99, 80, 2, 80).would(0, 2), 1);
        Check.equal("both", contractFor(99, 80, 1, 80).would(0, 2), 2);
        CupReceipts x = Make.twelveLots();
        x.set(0, 120);
        x.sell(2, 200);
        Check.equal("all 12", x.would(0, 2), 12);
        CupReceipts y = Make.twelveLots();
        y.set(0, 119);
        y.sell(2, 200);
        Check.equal("11 of 12", y.would(0, 2), 11);
    }

    /** "the sum of the cups of all bags, as a float, divided by how many bags, as a float" */
    private static void promise17MeanCup() {
        int[][] cases = {{1, 70, 0}, {1, 100, 0}, {250, 70, 0}, {250, 100, 0}, {3, 79, 1}, {3, 79, 2}, {7, 99, 3},
            {249, 72, 1}, {250, 99, 249}, {247, 70, 100}};
        for (int[] one : cases) {
            int bags = one[0];
            int better = one[2];
            CupReceipts x = Make.lots(999, one[1]);
            x.set(0, bags);
            x.set(2, 50);
            x.worth(x.lotOf(0, 6), 999);
            if (better > 0) {
                x.lot(better, one[1] + 1);
                x.worth(x.lotOf(1, 6), 1);
            }
            x.sell(2, 900);
            float mean = (float) (bags * one[1] + better) / (float) bags;
            Check.equal(bags + " of " + one[1] + ", " + better + " better", x.would(0, 3), Float.floatToIntBits(mean));
        }
    }

    /** "the bits of the mean cup of its bags now" */
    private static void promise17MeanCupNow() {
        CupReceipts x = contractFor(100, 80);
        Check.equal("80", x.would(0, 3), 1117782016);
        x.pass(2);
        Check.equal("80 after 2 months", x.would(0, 3), 1117782016);
        x.sell(4, 200);
        x.meet(0);
        x.lot(100, 81);
        x.pass(2);
        Check.equal("81 after 2 months", x.would(0, 3), Float.floatToIntBits(81f));
    }

    // Promise 18: lift

    private static void promise18NoSuchLot() {
        Check.range("lot", 0, 2, lot -> Make.lots(5, 80, 5, 80, 5, 80).lift(lot, lot == 1 ? 0 : 1, 70));
        Check.range("other", 0, 2, lot -> Make.lots(5, 80, 5, 80, 5, 80).lift(lot == 1 ? 0 : 1, lot, 70));
        CupReceipts x = oneIsLeft();
        x.lot(5, 80);
        Check.equal("one that is gone", x.lift(0, 3, 70), Check.INVALID);
        Check.equal("other that is gone", x.lift(3, 0, 70), Check.INVALID);
    }

    /** "or both are the same" */
    private static void promise18BothAreTheSame() {
        Check.equal("0", Make.lots(5, 80, 5, 80).lift(0, 0, 70), Check.INVALID);
        Check.equal("1", Make.lots(5, 80, 5, 80).lift(1, 1, 100), Check.INVALID);
    }

    /** "cup: 60 to 100" */
    private static void promise18Cup60To100() {
        Check.range("cup", 60, 100, cup -> Make.lots(5, 80, 5, 90).lift(0, 1, cup));
        Check.equal("60", Make.lots(5, 60, 5, 60).lift(0, 1, 60), 1);
        Check.equal("100", Make.lots(5, 100, 5, 100).lift(0, 1, 100), 1);
        Check.equal("59", Make.lots(5, 60, 5, 60).lift(0, 1, 59), Check.INVALID);
        Check.equal("101", Make.lots(5, 100, 5, 100).lift(0, 1, 101), Check.INVALID);
    }

    /** "Returns how many, 1 or more" */
    private static void promise18OneOrMore() {
        Check.equal("it has the cup already", Make.lots(5, 80, 5, 90).lift(0, 1, 80), 1);
        Check.equal("it has more", Make.lots(5, 80, 5, 90).lift(0, 1, 60), 1);
        Check.equal("the other has less", Make.lots(5, 90, 5, 60).lift(0, 1, 85), 1);
        Check.equal("one is enough", Make.lots(5, 80, 5, 90).lift(0, 1, 81), 1);
    }

    /** "how many bags of another lot at least": one less would not do. */
    private static void promise18TheLeastThatDoes() {
        for (int cup = 71; cup <= 88; cup++) {
            CupReceipts x = Make.lots(37, 70, 999, 90);
            int bags = x.lift(0, 1, cup);
            Check.isTrue(bags + " reach " + cup, reached(37, 70, bags, 90) >= cup);
            Check.isTrue(bags - 1 + " do not reach " + cup, bags == 1 || reached(37, 70, bags - 1, 90) < cup);
            Check.isTrue("as blend has it", x.lotOf(x.blend(0, 37, 1, bags), 1) >= cup);
        }
    }

    private static int reached(int bags, int cup, int withBags, int withCup) {
        return (bags * cup + withBags * withCup) / (bags + withBags);
    }

    private static void promise18JustReached() {
        Check.equal("10 of 70 and 10 of 90", Make.lots(10, 70, 99, 90).lift(0, 1, 80), 10);
        Check.equal("11 of 70 and 11 of 90", Make.lots(11, 70, 99, 90).lift(0, 1, 80), 11);
        Check.equal("10 of 70: 9.5 of 90", Make.lots(10, 70, 99, 91).lift(0, 1, 80), 10);
        Check.equal("11 of 70: 10 of 91", Make.lots(11, 70, 99, 91).lift(0, 1, 80), 10);
        Check.equal("12 of 70: 10.9 of 91", Make.lots(12, 70, 99, 91).lift(0, 1, 80), 11);
    }

    /** "NOT_FOUND if no number of its bags would do" */
    private static void promise18NoNumberOfItsBags() {
        Check.equal("just all of them", Make.lots(10, 70, 10, 90).lift(0, 1, 80), 10);
        Check.equal("one bag too few", Make.lots(10, 70, 9, 90).lift(0, 1, 80), Check.MISSING);
        Check.equal("its own cup", Make.lots(10, 70, 999, 90).lift(0, 1, 90), Check.MISSING);
        Check.equal("one below its own cup", Make.lots(10, 70, 190, 90).lift(0, 1, 89), 190);
        Check.equal("above its own cup", Make.lots(10, 70, 999, 90).lift(0, 1, 91), Check.MISSING);
        Check.equal("the same cups", Make.lots(10, 70, 999, 70).lift(0, 1, 71), Check.MISSING);
        Check.equal("a lower one", Make.lots(10, 90, 999, 70).lift(0, 1, 90), Check.MISSING);
        Check.equal("10 of 90 and 1 of 70", Make.lots(10, 90, 999, 70).lift(0, 1, 88), 1);
        Check.equal("10 of 90 and 1 of 70", Make.lots(10, 90, 999, 70).lift(0, 1, 89), Check.MISSING);
    }

    /** "whatever limits of lots and bags there are" */
    private static void promise18WhateverLimits() {
        CupReceipts x = Make.bigLot();
        int big = x.numberOf(0);
        int other = x.lot(999, 100);
        Check.equal("10000 bags and more", x.lift(big, other, 81), 526);
        Check.equal("cannot be blended", x.blend(big, 9990, other, 526), Check.LIMIT);
        CupReceipts y = Make.twelveLots();
        y.blend(0, 10, 1, 10);
        y.lot(10, 90);
        Check.equal("12 lots", y.count(0), 12);
        Check.equal("of a full house", y.lift(2, 13, 81), 2);
        Check.equal("all of the lot", y.lift(2, 13, 85), 10);
    }

    private static void promise18CupsOfNow() {
        CupReceipts x = Make.lots(10, 70);
        x.pass(8);
        x.lot(99, 90);
        Check.equal("68 and 90", x.lift(0, 1, 79), 10);
        x.pass(4);
        Check.equal("67 and 89", x.lift(0, 1, 78), 10);
    }

    /** Neither is the lot changed nor a state kept. */
    private static void promise18IsNoChange() {
        Check.same("as before", Probe.shown(() -> {
            CupReceipts x = Make.furnished();
            Check.equal("lift", x.lift(0, 1, 89), 20);
            return x;
        }), Probe.shown(Make::furnished));
    }

    // Promise 19: bestMonth

    /** "price: 1 to 999" */
    private static void promise19Price1To999() {
        Check.range("price", 1, 999, price -> Make.lots(100, 80).bestMonth(price, 0));
        Check.equal("price 0 without bags", new CupReceipts().bestMonth(0, 0), Check.INVALID);
        Check.equal("price 1000 without bags", new CupReceipts().bestMonth(1000, 0), Check.INVALID);
    }

    private static void promise19What0To1() {
        Check.range("what", 0, 1, what -> Make.lots(100, 80).bestMonth(5, what));
        Check.equal("what 2 without bags", new CupReceipts().bestMonth(5, 2), Check.INVALID);
    }

    /** "NOT_FOUND if in none there are enough bags" */
    private static void promise19NotEnoughBags() {
        for (int what = 0; what <= 1; what++) {
            Check.equal("no lots", new CupReceipts().bestMonth(5, what), Check.MISSING);
            Check.equal("99", Make.lots(99, 80).bestMonth(5, what), Check.MISSING);
            Check.isTrue("100", Make.lots(100, 80).bestMonth(5, what) > 0);
            Check.equal("99 and 69", Make.lots(99, 80, 9, 69).bestMonth(5, what), Check.MISSING);
        }
    }

    /** Of the months, only in some are there enough bags. */
    private static void promise19EnoughBagsInSomeMonths() {
        CupReceipts x = Make.lots(100, 70);
        x.worth(1, 999);
        Check.equal("in 2 months, though the gain is below 0", x.bestMonth(1, 0), 2);
        Check.equal("its gain", x.bestMonth(1, 1), 1000000 - 99800);
        x.set(1, 1 << 3);
        Check.equal("in 3 months", x.bestMonth(1, 0), 3);
        x.set(1, 1 << 4);
        Check.equal("in 4 months", x.bestMonth(1, 0), Check.MISSING);
    }

    /** "this one the first of them" */
    private static void promise19ThisMonthIsTheFirst() {
        CupReceipts x = Make.oneBagContracts(5, 80);
        x.worth(1, 999);
        Check.equal("this month", x.bestMonth(500, 0), 0);
        x.set(1, 4094);
        Check.equal("the next", x.bestMonth(500, 0), 1);
        x.pass(1);
        Check.equal("it is this month", x.bestMonth(500, 0), 0);
    }

    /** "among 24 months" */
    private static void promise19Among24Months() {
        // 84 is below 80 after 20 months
        CupReceipts x = betterBelow80(84);
        x.set(1, 1 << 11);
        Check.equal("in 11 and 23 months", x.bestMonth(500, 0), 23);
        x.set(1, 1);
        Check.equal("in 0 and 12 months; 24 are too many", x.bestMonth(500, 0), 0);
        x.pass(1);
        Check.equal("in 11 and 23 months", x.bestMonth(500, 0), 23);
    }

    /** Without premium and discount: a bag with a cup of 80 to 89 is worth 999, one with 70 to 79 is worth 1. */
    private static CupReceipts betterBelow80(int cup) {
        CupReceipts x = Make.oneBagContracts(5, cup);
        x.set(2, 0);
        x.set(3, 0);
        x.worth(2, 999);
        x.worth(1, 1);
        return x;
    }

    /** "of several the earliest" */
    private static void promise19TheEarliestOfSeveral() {
        CupReceipts x = betterBelow80(82);
        Check.equal("82 is below 80 after 12 months", x.bestMonth(500, 0), 12);
        Check.equal("gain", x.bestMonth(500, 1), 1000499);
        x.set(1, 2388);
        Check.equal("14 is the first delivery month after it", x.bestMonth(500, 0), 14);
        Check.equal("gain", x.bestMonth(500, 1), 1000499);
    }

    /** "also if they are above 999" */
    private static void promise19MonthsAbove999() {
        CupReceipts x = betterBelow80(82);
        Make.passTo(x, 999);
        x.lot(5, 82);
        x.set(1, 1 << 2);
        Check.equal("1010 and 1022 are 2 modulo 12", x.bestMonth(500, 0), 23);
        x.set(1, 1 << 3);
        Check.equal("999 and 1011 are 3 modulo 12", x.bestMonth(500, 0), 12);
        x.set(1, 1 << 4);
        Check.equal("1000 and 1012 are 4 modulo 12", x.bestMonth(500, 0), 13);
        x.set(1, 1 << 2);
        x.worth(2, 1);
        x.worth(1, 999);
        Check.equal("the first of 1010 and 1022", x.bestMonth(500, 0), 11);
        x.worth(1, 1);
        x.worth(2, 2);
        Check.equal("1022 is the last of 24", x.bestMonth(500, 0), 23);
    }

    /** "open contracts take no bags" */
    private static void promise19OpenContractsTakeNoBags() {
        CupReceipts x = Make.oneBagContracts(1, 80);
        x.worth(1, 999);
        int before = x.bestMonth(500, 1);
        for (int contract = 0; contract < 6; contract++) {
            x.sell(contract, 500);
        }
        Check.equal("with six", x.bestMonth(500, 1), before);
        Check.equal("this month", x.bestMonth(500, 0), 0);
    }

    /** "1: the gain plus 1000000" */
    private static void promise19Gain() {
        CupReceipts x = Make.lots(250, 100);
        x.set(0, 250);
        x.set(1, 1);
        x.set(2, 50);
        x.worth(3, 1);
        Check.equal("the greatest", x.bestMonth(999, 1), 1000000 + 250 * 1998);
        CupReceipts y = Make.lots(250, 70);
        y.set(0, 250);
        y.set(1, 1);
        y.worth(1, 999);
        Check.equal("the least", y.bestMonth(1, 1), 1000000 - 250 * 998);
    }

    // Promise 20: count

    /** "what: 0: lots; ... 11: the length of the text; 20 to 24: the settings 0 to 4" */
    private static void promise20What() {
        Check.range("what", 0, 11, what -> Make.furnished().count(what));
        Check.range("what", 20, 24, what -> Make.furnished().count(what));
        for (int what = 12; what <= 19; what++) {
            Check.equal("what " + what, Make.furnished().count(what), Check.INVALID);
        }
    }

    private static void promise20OfAFurnishedHouse() {
        CupReceipts x = Make.furnished();
        // paid: ten bags of 74 at 250: 250 - 18 - 4
        int[] due = {4, 60, 4, 2, 2280, 1, 0, 10, 51, 4, 4, 9};
        for (int what = 0; what <= 11; what++) {
            Check.equal("what " + what, x.count(what), due[what]);
        }
        int[] settings = {10, 2388, 3, 4, 20};
        for (int what = 0; what < 5; what++) {
            Check.equal("setting " + what, x.count(20 + what), settings[what]);
        }
    }

    /** "5: contracts that were met so far; 6: failed ones so far; 7: bags that were given so far" */
    private static void promise20SoFar() {
        CupReceipts x = Make.oneBagContracts(20, 80);
        for (int month = 0; month < 3; month++) {
            x.set(0, month + 2);
            x.sell(month, 100);
            x.sell(month, 100);
            x.sell(month, 100);
            x.meet(0);
            x.pass(1);
            Check.equal("met", x.count(5), month + 1);
            Check.equal("failed", x.count(6), 2 * month + 2);
        }
        Check.equal("given", x.count(7), 2 + 3 + 4);
        Check.equal("left", x.count(1), 20 - 9);
        Check.equal("account", x.count(4), 9 * 100 - 2 * 9 * 20);
    }

    /** "8: bags that can be given now" */
    private static void promise20BagsThatCanBeGivenNow() {
        CupReceipts x = Make.lots(1, 60, 2, 69, 4, 70, 8, 71, 16, 100);
        Check.equal("at first", x.count(8), 28);
        x.pass(3);
        Check.equal("after 3 months", x.count(8), 28);
        x.pass(1);
        Check.equal("after 4 months", x.count(8), 24);
        x.pass(4);
        Check.equal("after 8 months", x.count(8), 16);
        Check.equal("all bags", x.count(1), 31);
    }

    private static void promise20AsManyAsThereMayBe() {
        CupReceipts x = Make.full();
        Check.equal("lots", x.count(0), 12);
        Check.equal("open contracts", x.count(3), 6);
        Check.equal("states", x.count(10), 4);
        Check.equal("length of the text", x.count(11), 60);
        Check.equal("bags", x.count(1), 12 * 10 + 66);
    }
}
