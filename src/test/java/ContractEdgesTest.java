/** The boundary cases of the promises 7 to 11, and of what the terms say of months, contracts, account and settings. */
public final class ContractEdgesTest {
    private ContractEdgesTest() {
    }

    public static void main(String[] args) {
        Check.runAll(ContractEdgesTest.class);
    }

    // Promise 7: sell

    /** "INVALID_ARGUMENT if month is below 0 or above 999" */
    private static void promise7Month0To999() {
        Check.range("month", 0, 999, month -> Make.oneBagContracts().sell(month, 5));
        Check.equal("month 0 is sold for", Make.oneBagContracts().sell(0, 5), 0);
        CupReceipts x = Make.oneBagContracts();
        Check.equal("month 999 is sold for", x.sell(999, 5), 0);
        Check.equal("its month", x.contractOf(0, 0), 999);
    }

    /** "price: 1 to 999" */
    private static void promise7Price1To999() {
        Check.range("price", 1, 999, price -> new CupReceipts().sell(2, price));
        Check.equal("price 1", sold(2, 1).contractOf(0, 1), 1);
        Check.equal("price 999", sold(2, 999).contractOf(0, 1), 999);
    }

    private static CupReceipts sold(int month, int price) {
        CupReceipts x = new CupReceipts();
        x.sell(month, price);
        return x;
    }

    /** "NOT_POSSIBLE if the month is past" */
    private static void promise7MonthIsPast() {
        int[] months = {1, 12, 25, 999};
        for (int month : months) {
            CupReceipts x = Make.oneBagContracts();
            Make.passTo(x, month);
            Check.equal("the month before " + month, x.sell(month - 1, 5), Check.IMPOSSIBLE);
            Check.equal("the first month at " + month, x.sell(0, 5), Check.IMPOSSIBLE);
            Check.equal("this month " + month, x.sell(month, 5), 0);
            Check.equal("it is now", x.contractOf(0, 2), 0);
            Check.equal("the next month", x.sell(month + 1, 5), month == 999 ? Check.INVALID : 1);
        }
    }

    /** "if the bit (its number modulo 12) of setting 1 is 1" */
    private static void promise7DeliveryMonthsByBits() {
        for (int bit = 0; bit < 12; bit++) {
            CupReceipts x = new CupReceipts();
            x.set(1, 1 << bit);
            int contracts = 0;
            for (int month = 0; month < 36; month++) {
                boolean delivers = month % 12 == bit;
                Check.equal("bit " + bit + " month " + month, x.sell(month, 5),
                        delivers ? contracts : Check.IMPOSSIBLE);
                contracts += delivers ? 1 : 0;
            }
        }
    }

    private static void promise7NoDeliveryMonth() {
        for (int bit = 0; bit < 12; bit++) {
            CupReceipts x = new CupReceipts();
            x.set(1, 4095 - (bit == 0 ? 1 : 1 << bit));
            Check.equal("all but " + bit, x.sell(bit, 5), Check.IMPOSSIBLE);
            Check.equal("a year later", x.sell(bit + 12, 5), Check.IMPOSSIBLE);
            Check.equal("the next", x.sell(bit + 1, 5), 0);
        }
        CupReceipts y = new CupReceipts();
        y.set(1, 1 << 3);
        Check.equal("999 is 3 modulo 12", y.sell(999, 5), 0);
        Check.equal("998", y.sell(998, 5), Check.IMPOSSIBLE);
    }

    /** "LIMIT_REACHED if 6 are open" */
    private static void promise7SixAtMost() {
        CupReceipts x = new CupReceipts();
        for (int contract = 0; contract < 6; contract++) {
            Check.equal("number", x.sell(2, 5 + contract), contract);
        }
        Check.equal("the 7th", x.sell(2, 5), Check.LIMIT);
        Check.equal("the 7th for another month", x.sell(998, 5), Check.LIMIT);
        Check.equal("open", x.count(3), 6);
        Check.equal("one is bought back", x.buyBack(5, 10), 0);
        Check.equal("the 6th again", x.sell(4, 7), 5);
        Check.equal("the 7th again", x.sell(4, 7), Check.LIMIT);
    }

    private static void promise7OrderOfErrors() {
        CupReceipts x = Make.sixContracts();
        x.pass(2);
        Check.equal("price, past, six", x.sell(1, 0), Check.INVALID);
        Check.equal("price, six", x.sell(14, 1000), Check.INVALID);
        Check.equal("month, six", x.sell(-1, 5), Check.INVALID);
        Check.equal("past, six", x.sell(0, 5), Check.IMPOSSIBLE);
        Check.equal("no delivery month, six", x.sell(3, 5), Check.IMPOSSIBLE);
        Check.equal("six", x.sell(4, 5), Check.LIMIT);
    }

    /** "numbered from 0 in the order in which they were sold" */
    private static void promise7NumbersInTheOrderOfSelling() {
        CupReceipts x = new CupReceipts();
        Check.equal("first", x.sell(14, 30), 0);
        Check.equal("second, for an earlier month", x.sell(2, 20), 1);
        Check.equal("third, at a lower price", x.sell(2, 10), 2);
        Check.equal("0", x.contractOf(0, 0), 14);
        Check.equal("1", x.contractOf(1, 1), 20);
        Check.equal("2", x.contractOf(2, 1), 10);
    }

    // Promise 8: buyBack

    private static void promise8NoSuchContract() {
        Check.range("of six", 0, 5, contract -> Make.sixContracts().buyBack(contract, 5));
        Check.range("of one", 0, 0, contract -> sold(2, 5).buyBack(contract, 5));
        Check.equal("of none", new CupReceipts().buyBack(0, 5), Check.INVALID);
    }

    /** "price: 1 to 999" */
    private static void promise8Price1To999() {
        Check.range("price", 1, 999, price -> sold(2, 500).buyBack(0, price));
    }

    /** "what comes to the account is setting 0 times (its price less that)" */
    private static void promise8WhatComes() {
        int[][] cases = {{100, 1, 999, -99800}, {100, 999, 1, 99800}, {100, 5, 5, 0}, {1, 5, 6, -1}, {1, 6, 5, 1},
            {250, 1, 999, -249500}, {250, 999, 1, 249500}};
        for (int[] one : cases) {
            CupReceipts x = new CupReceipts();
            x.set(0, one[0]);
            x.sell(2, one[1]);
            Check.equal("comes", x.buyBack(0, one[2]), one[3]);
            Check.equal("account", x.count(4), one[3]);
            Check.equal("open", x.count(3), 0);
            Check.equal("met, failed, given", x.count(5) + x.count(6) + x.count(7), 0);
        }
    }

    /** "a contract that is ... bought back ... makes the numbers of those behind it less by 1" */
    private static void promise8ThoseBehindMoveUp() {
        for (int gone = 0; gone < 6; gone++) {
            CupReceipts x = Make.sixContracts();
            x.buyBack(gone, 5);
            theRestIsThere(x, gone);
        }
    }

    private static void theRestIsThere(CupReceipts x, int gone) {
        int[] months = {2, 4, 6, 8, 11, 14};
        for (int contract = 0; contract < 5; contract++) {
            int before = contract < gone ? contract : contract + 1;
            Check.equal("price of " + contract + " without " + gone, x.contractOf(contract, 1), 10 * before + 10);
            Check.equal("month of " + contract + " without " + gone, x.contractOf(contract, 0), months[before]);
        }
        Check.equal("no 6th", x.contractOf(5, 0), Check.INVALID);
        Check.equal("open", x.count(3), 5);
    }

    private static void promise8WhateverItsMonth() {
        CupReceipts x = sold(4, 50);
        Check.equal("ahead of its month", x.buyBack(0, 40), 1000);
        CupReceipts y = sold(4, 50);
        y.pass(4);
        Check.equal("in its month", y.buyBack(0, 40), 1000);
    }

    // Promise 9: meet

    private static void promise9NoSuchContract() {
        Check.range("of six", 0, 5, contract -> sixForNow().meet(contract));
        Check.range("of none of this month", 0, 5, contract -> Make.sixContracts().meet(contract));
        Check.equal("of none", Make.lots(200, 80).meet(0), Check.INVALID);
    }

    /** Six contracts of one bag for this month, at 10, 20 and so on. */
    private static CupReceipts sixForNow() {
        CupReceipts x = Make.oneBagContracts(50, 80);
        for (int contract = 0; contract < 6; contract++) {
            x.sell(0, 10 * contract + 10);
        }
        return x;
    }

    /** "NOT_POSSIBLE if it is not for this month" */
    private static void promise9NotForThisMonth() {
        CupReceipts x = Make.oneBagContracts(50, 80);
        x.sell(2, 5);
        x.sell(14, 5);
        x.pass(1);
        Check.equal("the month before", x.meet(0), Check.IMPOSSIBLE);
        x.pass(1);
        Check.equal("a year before", x.meet(1), Check.IMPOSSIBLE);
        Check.equal("in its month", x.meet(0), 5);
    }

    /** "or there are not enough bags that can be given" */
    private static void promise9NotEnoughBags() {
        Check.equal("99", forNow(Make.lots(99, 80)).meet(0), Check.IMPOSSIBLE);
        Check.equal("100", forNow(Make.lots(100, 80)).meet(0), 20000);
        Check.equal("101", forNow(Make.lots(101, 80)).meet(0), 20000);
        Check.equal("99 and 1", forNow(Make.lots(99, 80, 1, 80)).meet(0), 20000);
        Check.equal("no lots", forNow(new CupReceipts()).meet(0), Check.IMPOSSIBLE);
    }

    /** A contract at 200 for this month. */
    private static CupReceipts forNow(CupReceipts x) {
        x.set(1, 4095);
        x.sell(x.count(2), 200);
        return x;
    }

    /** "a lot with a cup now of at least 70 can be given" */
    private static void promise9CupNowAtLeast70() {
        Check.equal("70", forNow(Make.lots(100, 70)).meet(0), 17000);
        Check.equal("69", forNow(Make.lots(100, 69)).meet(0), Check.IMPOSSIBLE);
        Check.equal("one of 69 among them", forNow(Make.lots(99, 70, 1, 69)).meet(0), Check.IMPOSSIBLE);
        CupReceipts x = Make.lots(100, 70);
        x.pass(3);
        Check.equal("70 after 3 months", forNow(x).meet(0), 17000);
        CupReceipts y = Make.lots(100, 70);
        y.pass(4);
        Check.equal("70 after 4 months", forNow(y).meet(0), Check.IMPOSSIBLE);
    }

    private static void promise9ALotBelow70IsNotTouched() {
        CupReceipts x = forNow(Make.lots(100, 69, 100, 70));
        x.worth(0, 1);
        Check.equal("meet", x.meet(0), 17000);
        Check.equal("bags of 69", x.lotOf(0, 0), 100);
        Check.equal("bags of 70", x.lotOf(1, 0), Check.INVALID);
    }

    /** "bags are given from the lots with the greatest gain first" */
    private static void promise9GreatestGainFirst() {
        CupReceipts x = forNow(Make.lots(100, 80, 100, 81));
        Check.equal("gains 0 and 3", x.meet(0), 20300);
        Check.equal("the first stays", x.lotOf(0, 0), 100);
        CupReceipts y = forNow(Make.lots(100, 81, 100, 79));
        Check.equal("gains 3 and 47", y.meet(0), 19700);
        Check.equal("the first stays", y.lotOf(0, 0), 100);
    }

    /** "of several from that of the lowest number" */
    private static void promise9LowestNumberOfTheSameGain() {
        CupReceipts x = forNow(Make.lots(60, 80, 60, 80, 60, 80));
        x.meet(0);
        Check.equal("the first is gone", x.lotOf(0, 0), Check.INVALID);
        Check.equal("of the second", x.lotOf(1, 0), 20);
        Check.equal("of the third", x.lotOf(2, 0), 60);
        // 197 - 150 = 47 and, with a worth of 153, 200 - 153 = 47
        CupReceipts y = Make.lots(100, 80, 100, 79);
        y.worth(2, 153);
        Check.equal("of different bands", forNow(y).meet(0), 20000);
    }

    /** "as many as there are in the lot, and as are wanted" */
    private static void promise9AsManyAsThereAreAndAreWanted() {
        CupReceipts x = forNow(Make.lots(1, 82, 98, 81, 5, 80));
        Check.equal("1, 98 and 1", x.meet(0), 206 + 98 * 203 + 200);
        Check.equal("lots", x.count(0), 1);
        Check.equal("left", x.lotOf(2, 0), 4);
        CupReceipts y = forNow(Make.lots(100, 81, 5, 80));
        Check.equal("just the first", y.meet(0), 20300);
        Check.equal("left", y.lotOf(1, 0), 5);
        Check.equal("gone", y.lotOf(0, 0), Check.INVALID);
    }

    /** "In its month a contract can be met": also if that is no delivery month any more. */
    private static void promise9WhateverSetting1IsNow() {
        CupReceipts x = Make.lots(100, 80);
        x.sell(2, 200);
        x.set(1, 1);
        x.pass(2);
        Check.equal("meet", x.meet(0), 20000);
    }

    private static void promise9BagsByTheSetting() {
        int[] settings = {1, 2, 249, 250};
        for (int bags : settings) {
            CupReceipts x = Make.lots(250, 80);
            x.set(0, bags);
            Check.equal("paid", forNow(x).meet(0), 200 * bags);
            Check.equal("given", x.count(7), bags);
            Check.equal("left", x.count(1), 250 - bags);
        }
        CupReceipts y = Make.lots(249, 80);
        y.set(0, 250);
        Check.equal("one is missing", forNow(y).meet(0), Check.IMPOSSIBLE);
    }

    private static void promise9ThoseBehindMoveUp() {
        for (int gone = 0; gone < 6; gone++) {
            CupReceipts x = sixForNow();
            Check.equal("paid", x.meet(gone), 10 * gone + 10);
            Check.equal("account", x.count(4), 10 * gone + 10);
            for (int contract = 0; contract < 5; contract++) {
                Check.equal("price", x.contractOf(contract, 1), 10 * (contract < gone ? contract : contract + 1) + 10);
            }
            Check.equal("no 6th", x.contractOf(5, 0), Check.INVALID);
            Check.equal("met", x.count(5), 1);
            Check.equal("not failed", x.count(6), 0);
        }
    }

    private static void promise9OrderOfErrors() {
        Check.equal("no such contract, no bags", sold(2, 5).meet(1), Check.INVALID);
        Check.equal("not this month, no bags", sold(2, 5).meet(0), Check.IMPOSSIBLE);
    }

    /** "but at least 1" */
    private static void promise9AtLeast1IsPaid() {
        CupReceipts x = Make.lots(100, 70);
        x.set(1, 4095);
        x.sell(0, 31);
        x.sell(0, 30);
        x.sell(0, 1);
        Check.equal("31 less 30", x.would(0, 0), 100);
        Check.equal("30 less 30", x.would(1, 0), 100);
        Check.equal("1 less 30", x.meet(2), 100);
        Check.equal("account", x.count(4), 100);
    }

    // Promise 10: pass

    /** "months: 1 to 24" */
    private static void promise10Months1To24() {
        Check.range("months", 1, 24, months -> new CupReceipts().pass(months));
        CupReceipts x = new CupReceipts();
        x.pass(1);
        Check.equal("1", x.count(2), 1);
        x.pass(24);
        Check.equal("24", x.count(2), 25);
    }

    /** "LIMIT_REACHED if it would be above the month 999" */
    private static void promise10Month999AtMost() {
        Check.equal("975 and 24", Make.atMonth(975).pass(24), 0);
        Check.equal("976 and 24", Make.atMonth(976).pass(24), Check.LIMIT);
        Check.equal("976 and 23", Make.atMonth(976).pass(23), 0);
        Check.equal("998 and 1", Make.atMonth(998).pass(1), 0);
        Check.equal("998 and 2", Make.atMonth(998).pass(2), Check.LIMIT);
        CupReceipts x = Make.atMonth(999);
        Check.equal("999 and 1", x.pass(1), Check.LIMIT);
        Check.equal("999 and 24", x.pass(24), Check.LIMIT);
        Check.equal("month", x.count(2), 999);
    }

    private static void promise10InvalidRatherThanLimit() {
        int[] wrong = {0, -1, 25, Check.LEAST, Check.MOST};
        for (int months : wrong) {
            Check.equal("999 and " + months, Make.atMonth(999).pass(months), Check.INVALID);
        }
    }

    /** "the contracts for the month that goes by that are not met have failed" */
    private static void promise10TheMonthThatGoesBy() {
        CupReceipts x = sold(2, 5);
        Check.equal("up to its month", x.pass(2), 0);
        Check.equal("it is open", x.count(3), 1);
        Check.equal("its month goes by", x.pass(1), 1);
        Check.equal("open", x.count(3), 0);
        Check.equal("failed", x.count(6), 1);
        Check.equal("account", x.count(4), -2000);
        Check.equal("again", x.pass(1), 0);
        Check.equal("account", x.count(4), -2000);
    }

    private static void promise10SeveralMonthsGoBy() {
        int[] failed = {0, 0, 0, 1, 1, 2, 2, 3, 3, 4, 4, 4, 5, 5, 5, 6};
        for (int months = 1; months <= 15; months++) {
            CupReceipts x = Make.sixContracts();
            Check.equal("fail in " + months, x.pass(months), failed[months]);
            Check.equal("open", x.count(3), 6 - failed[months]);
            Check.equal("failed so far", x.count(6), failed[months]);
            Check.equal("account", x.count(4), -2000 * failed[months]);
        }
    }

    /** "a contract that is ... failed makes the numbers of those behind it less by 1" */
    private static void promise10ThoseBehindMoveUp() {
        CupReceipts x = new CupReceipts();
        x.sell(8, 10);
        x.sell(2, 20);
        x.sell(6, 30);
        x.sell(2, 40);
        x.sell(4, 50);
        Check.equal("two fail", x.pass(3), 2);
        int[] prices = {10, 30, 50};
        int[] months = {8, 6, 4};
        for (int contract = 0; contract < 3; contract++) {
            Check.equal("price", x.contractOf(contract, 1), prices[contract]);
            Check.equal("month", x.contractOf(contract, 0), months[contract]);
        }
        Check.equal("no more", x.contractOf(3, 0), Check.INVALID);
    }

    /** "for each of them (setting 0 times setting 4) is paid" */
    private static void promise10WhatFailingCosts() {
        int[][] cases = {{1, 0, 0}, {1, 1, -1}, {250, 999, -249750}, {250, 0, 0}, {1, 999, -999}};
        for (int[] one : cases) {
            CupReceipts x = new CupReceipts();
            x.set(0, one[0]);
            x.set(4, one[1]);
            x.sell(2, 999);
            x.sell(2, 1);
            Check.equal("fail", x.pass(24), 2);
            Check.equal("account", x.count(4), 2 * one[2]);
        }
    }

    /** The setting of the month that goes by, not of that in which the contract was sold. */
    private static void promise10WhatFailingCostsThen() {
        CupReceipts x = sold(2, 5);
        x.pass(2);
        x.set(4, 7);
        Check.equal("fail", x.pass(1), 1);
        Check.equal("account", x.count(4), -700);
    }

    private static void promise10WhatIsMetOrBoughtBackDoesNotFail() {
        CupReceipts x = sixForNow();
        x.meet(0);
        x.buyBack(0, 20);
        Check.equal("fail", x.pass(1), 4);
        Check.equal("account", x.count(4), 10 - 4 * 20);
    }

    private static void promise10SixFailAtOnce() {
        CupReceipts x = sixForNow();
        Check.equal("fail", x.pass(1), 6);
        Check.equal("none is open", x.count(3), 0);
        Check.equal("contract 0", x.contractOf(0, 0), Check.INVALID);
        Check.equal("a new one", x.sell(1, 5), 0);
    }

    /** A month that is no delivery month any more goes by as well. */
    private static void promise10FailsWhateverSetting1IsNow() {
        CupReceipts x = sold(2, 5);
        x.set(1, 1);
        Check.equal("fail", x.pass(3), 1);
    }

    // Promise 11: set

    /** "0 (1 to 250; 100), 1 (1 to 4095; 2388), 2 (0 to 50; 3), 3 (0 to 50; 2), 4 (0 to 999; 20)" */
    private static void promise11Ranges() {
        int[] least = {1, 1, 0, 0, 0};
        int[] most = {250, 4095, 50, 50, 999};
        for (int what = 0; what < 5; what++) {
            int asked = what;
            Check.range("setting " + what, least[what], most[what], value -> new CupReceipts().set(asked, value));
            CupReceipts x = new CupReceipts();
            x.set(what, least[what]);
            Check.equal("least", x.count(20 + what), least[what]);
            Check.equal("was the least", x.set(what, most[what]), least[what]);
            Check.equal("most", x.count(20 + what), most[what]);
            Check.equal("was the most", x.set(what, least[what]), most[what]);
        }
    }

    /** "what: 0 to 4" */
    private static void promise11What0To4() {
        Check.range("what", 0, 4, what -> new CupReceipts().set(what, 1));
        Check.range("what, with a value of none", 0, 4, what -> new CupReceipts().set(what, what == 1 ? 4095 : 50));
        Check.equal("what 5 with a value that setting 4 takes", new CupReceipts().set(5, 999), Check.INVALID);
        Check.equal("what -1 with a value that setting 0 takes", new CupReceipts().set(-1, 100), Check.INVALID);
    }

    private static void promise11OtherSettingsStay() {
        int[] first = {100, 2388, 3, 2, 20};
        for (int what = 0; what < 5; what++) {
            CupReceipts x = new CupReceipts();
            Check.equal("was", x.set(what, 17), first[what]);
            for (int other = 0; other < 5; other++) {
                Check.equal("setting " + other, x.count(20 + other), other == what ? 17 : first[other]);
            }
        }
    }

    /** "While a contract is open, setting 0 cannot be changed." */
    private static void promise11NotWhileAContractIsOpen() {
        CupReceipts x = sold(2, 5);
        Check.equal("another value", x.set(0, 50), Check.IMPOSSIBLE);
        Check.equal("the same value", x.set(0, 100), Check.IMPOSSIBLE);
        for (int what = 1; what < 5; what++) {
            Check.isTrue("setting " + what + " can be set", !Check.isError(x.set(what, 40)));
        }
        Check.equal("setting 0", x.count(20), 100);
    }

    private static void promise11AfterTheLastContract() {
        CupReceipts bought = Make.sixContracts();
        for (int left = 6; left > 0; left--) {
            Check.equal("with " + left, bought.set(0, 50), Check.IMPOSSIBLE);
            bought.buyBack(0, 5);
        }
        Check.equal("bought back", bought.set(0, 50), 100);
        CupReceipts met = sixForNow();
        for (int left = 6; left > 0; left--) {
            Check.equal("with " + left, met.set(0, 50), Check.IMPOSSIBLE);
            met.meet(0);
        }
        Check.equal("met", met.set(0, 50), 1);
        CupReceipts failed = sixForNow();
        failed.pass(1);
        Check.equal("failed", failed.set(0, 50), 1);
    }

    private static void promise11InvalidRatherThanNotPossible() {
        Check.equal("0", sold(2, 5).set(0, 0), Check.INVALID);
        Check.equal("251", sold(2, 5).set(0, 251), Check.INVALID);
        Check.equal("250", sold(2, 5).set(0, 250), Check.IMPOSSIBLE);
        Check.equal("1", sold(2, 5).set(0, 1), Check.IMPOSSIBLE);
    }
}
