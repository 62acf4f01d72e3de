/** Promises 7 to 11. */
public final class ContractsTest {
    private static final int LEAST = Integer.MIN_VALUE;
    private static final int MOST = Integer.MAX_VALUE;

    private ContractsTest() {
    }

    public static void main(String[] args) {
        promise7Sell();
        promise7SellInTheLastMonths();
        promise7SellErrors();
        promise8BuyBack();
        promise9Meet();
        promise9MeetOrder();
        promise9MeetErrors();
        promise10Pass();
        promise10PassToTheLastMonth();
        promise11Set();
        promise11SetWhileAContractIsOpen();
        Check.end("ContractsTest");
    }

    private static void promise7Sell() {
        CupReceipts x = new CupReceipts();
        int contracts = 0;
        for (int month = 0; month < 12; month++) {
            boolean delivery = month == 2 || month == 4 || month == 6 || month == 8 || month == 11;
            Check.equal("sell for " + month, x.sell(month, 1 + month), delivery ? contracts : Check.IMPOSSIBLE);
            contracts += delivery ? 1 : 0;
        }
        Check.equal("a year later", x.sell(14, 999), 5);
        Check.equal("7th", x.sell(14, 999), Check.LIMIT);
        Check.equal("7th of no delivery month", x.sell(13, 999), Check.IMPOSSIBLE);
        Check.equal("7th of a wrong price", x.sell(14, 1000), Check.INVALID);
        Check.equal("open", x.count(3), 6);
        Check.equal("fails", x.pass(3), 1);
        Check.equal("past", x.sell(2, 5), Check.IMPOSSIBLE);
        Check.equal("the place is free", x.sell(26, 5), 5);
        Check.equal("past and 7th", x.sell(2, 5), Check.IMPOSSIBLE);
        Check.equal("states", x.count(10), 4);
    }

    private static void promise7SellInTheLastMonths() {
        CupReceipts x = new CupReceipts();
        Check.equal("no delivery month", x.sell(999, 5), Check.IMPOSSIBLE);
        Check.equal("998 is one", x.sell(998, 5), 0);
        Check.equal("all months", x.set(1, 4095), 2388);
        Check.equal("999", x.sell(999, 5), 1);
        Check.equal("1000", x.sell(1000, 5), Check.INVALID);
        Check.equal("this month", x.sell(0, 5), 2);
        Check.equal("month", x.contractOf(1, 0), 999);
        Check.equal("one bit", x.set(1, 1 << 11), 4095);
        Check.equal("23", x.sell(23, 5), 3);
        Check.equal("22", x.sell(22, 5), Check.IMPOSSIBLE);
        Check.equal("those that are open stay", x.count(3), 4);
    }

    private static void promise7SellErrors() {
        CupReceipts x = new CupReceipts();
        int[][] wrong = {{-1, 5}, {1000, 5}, {2, 0}, {2, 1000}, {LEAST, 5}, {MOST, 5}, {2, LEAST}, {2, MOST}, {3, 0}};
        for (int[] one : wrong) {
            Check.equal("sell " + one[0] + " " + one[1], x.sell(one[0], one[1]), Check.INVALID);
        }
        Check.equal("nothing changed", x.count(10), 0);
        Check.equal("least price", x.sell(2, 1), 0);
        Check.equal("greatest price", x.sell(2, 999), 1);
    }

    private static void promise8BuyBack() {
        CupReceipts x = new CupReceipts();
        x.sell(2, 100);
        x.sell(4, 200);
        x.sell(6, 300);
        int[][] wrong = {{-1, 5}, {3, 5}, {0, 0}, {0, 1000}, {LEAST, 5}, {MOST, 5}, {0, LEAST}, {0, MOST}};
        for (int[] one : wrong) {
            Check.equal("buyBack " + one[0] + " " + one[1], x.buyBack(one[0], one[1]), Check.INVALID);
        }
        Check.equal("dearer", x.buyBack(1, 250), -5000);
        Check.equal("account", x.count(4), -5000);
        Check.equal("those behind it move up", x.contractOf(1, 0), 6);
        Check.equal("with their price", x.contractOf(1, 1), 300);
        Check.equal("the one ahead stays", x.contractOf(0, 0), 2);
        Check.equal("no third", x.contractOf(2, 0), Check.INVALID);
        Check.equal("cheaper", x.buyBack(1, 1), 29900);
        Check.equal("account", x.count(4), 24900);
        Check.equal("the same", x.buyBack(0, 100), 0);
        Check.equal("account", x.count(4), 24900);
        Check.equal("neither met nor failed", x.count(5) + x.count(6), 0);
        Check.equal("none is open", x.count(3), 0);
        x.set(0, 250);
        x.sell(2, 1);
        Check.equal("dearest", x.buyBack(0, 999), -249500);
        Check.equal("is a change", x.undo(), 3);
        Check.equal("account", x.count(4), 24900);
        buyBackOfSix();
    }

    private static void buyBackOfSix() {
        CupReceipts x = new CupReceipts();
        for (int contract = 0; contract < 6; contract++) {
            x.sell(2, 10 + contract);
        }
        Check.equal("the first of six", x.buyBack(0, 10), 0);
        Check.equal("the last of five", x.buyBack(4, 15), 0);
        for (int contract = 0; contract < 4; contract++) {
            Check.equal("those that are left", x.contractOf(contract, 1), 11 + contract);
        }
        Check.equal("no more", x.contractOf(4, 1), Check.INVALID);
    }

    private static void promise9Meet() {
        CupReceipts x = new CupReceipts();
        x.set(0, 10);
        x.set(1, 4095);
        x.lot(6, 85);
        x.lot(7, 88);
        x.lot(50, 69);
        x.sell(0, 100);
        x.sell(0, 50);
        // of 88: 100 + 24 a bag, 7 of them; of 85: 100 + 15, 3 of them
        Check.equal("meet", x.meet(0), 7 * 124 + 3 * 115);
        Check.equal("account", x.count(4), 1213);
        Check.equal("met", x.count(5), 1);
        Check.equal("given", x.count(7), 10);
        Check.equal("failed", x.count(6), 0);
        Check.equal("the lot used up is gone", x.lotOf(1, 0), Check.INVALID);
        Check.equal("bags left", x.lotOf(0, 0), 3);
        Check.equal("a cup below 70 is not given", x.lotOf(2, 0), 50);
        Check.equal("the other is contract 0 now", x.contractOf(0, 1), 50);
        Check.equal("not enough", x.meet(0), Check.IMPOSSIBLE);
        Check.equal("bags left", x.lotOf(0, 0), 3);
        x.lot(6, 70);
        Check.equal("one bag is missing", x.meet(0), Check.IMPOSSIBLE);
        x.undo();
        x.lot(7, 70);
        Check.equal("just enough", x.meet(0), 3 * 65 + 7 * 20);
        Check.equal("lots", x.count(0), 1);
        Check.equal("account", x.count(4), 1213 + 335);
        Check.equal("met", x.count(5), 2);
        Check.equal("given", x.count(7), 20);
        Check.equal("none is open", x.meet(0), Check.INVALID);
    }

    private static void promise9MeetOrder() {
        CupReceipts x = new CupReceipts();
        x.set(0, 5);
        x.set(1, 4095);
        x.set(2, 10);
        x.lot(3, 79);
        x.pass(6);
        x.lot(2, 80);
        x.lot(4, 80);
        x.lot(1, 99);
        // 79 is 78 now and 3 months too old: 300 - 20 - 6 - 150 = 124;
        // 80: 300 - 200 = 100, twice; 99: 300 + 190 - 300 = 190
        x.sell(6, 300);
        Check.equal("meet", x.meet(0), 490 + 3 * 274 + 300);
        Check.equal("99 is gone", x.lotOf(3, 0), Check.INVALID);
        Check.equal("79 is gone", x.lotOf(0, 0), Check.INVALID);
        Check.equal("the lower number of two with the same gain", x.lotOf(1, 0), 1);
        Check.equal("the higher number", x.lotOf(2, 0), 4);
        meetAfterOneOfMoreLots();
    }

    private static void meetAfterOneOfMoreLots() {
        CupReceipts x = new CupReceipts();
        x.set(0, 5);
        x.set(1, 4095);
        x.lot(3, 80);
        x.lot(12, 80);
        x.sell(0, 300);
        x.sell(0, 200);
        Check.equal("of two lots", x.meet(0), 1500);
        x.lot(10, 80);
        Check.equal("of one lot", x.meet(0), 1000);
        Check.equal("five more of the one", x.lotOf(1, 0), 5);
        Check.equal("none of the other", x.lotOf(2, 0), 10);
    }

    private static void promise9MeetErrors() {
        CupReceipts x = new CupReceipts();
        x.set(0, 1);
        x.lot(5, 90);
        Check.equal("none is open", x.meet(0), Check.INVALID);
        x.sell(2, 5);
        x.sell(4, 5);
        Check.equal("not yet", x.meet(0), Check.IMPOSSIBLE);
        Check.equal("no such contract", x.meet(2), Check.INVALID);
        Check.equal("no such contract", x.meet(-1), Check.INVALID);
        Check.equal("no such contract", x.meet(LEAST), Check.INVALID);
        x.pass(2);
        Check.equal("the other is not yet", x.meet(1), Check.IMPOSSIBLE);
        Check.equal("now", x.meet(0), 5 + 30);
        Check.equal("lots left", x.lotOf(0, 0), 4);
    }

    private static void promise10Pass() {
        CupReceipts x = new CupReceipts();
        x.set(1, 4095);
        x.set(4, 7);
        x.sell(0, 10);
        x.sell(5, 20);
        x.sell(1, 30);
        x.sell(1, 40);
        x.sell(2, 50);
        int[] wrong = {0, -1, 25, LEAST, MOST};
        for (int months : wrong) {
            Check.equal("pass " + months, x.pass(months), Check.INVALID);
        }
        Check.equal("first month", x.pass(1), 1);
        Check.equal("account", x.count(4), -700);
        Check.equal("month", x.count(2), 1);
        Check.equal("the first has failed", x.contractOf(0, 1), 20);
        Check.equal("two months", x.pass(2), 3);
        Check.equal("account", x.count(4), -2800);
        Check.equal("failed", x.count(6), 4);
        Check.equal("one is left", x.count(3), 1);
        Check.equal("up to its month", x.pass(2), 0);
        Check.equal("it is open in it", x.contractOf(0, 2), 0);
        Check.equal("24 months", x.pass(24), 1);
        Check.equal("month", x.count(2), 29);
        Check.equal("failed", x.count(6), 5);
        Check.equal("met", x.count(5), 0);
        Check.equal("account", x.count(4), -3500);
        x.set(4, 0);
        x.sell(29, 5);
        Check.equal("without a fine", x.pass(1), 1);
        Check.equal("account", x.count(4), -3500);
    }

    private static void promise10PassToTheLastMonth() {
        CupReceipts x = new CupReceipts();
        x.set(1, 4095);
        for (int turn = 0; turn < 41; turn++) {
            Check.equal("pass", x.pass(24), 0);
        }
        Check.equal("month", x.count(2), 984);
        Check.equal("past the last", x.pass(16), Check.LIMIT);
        Check.equal("out of range", x.pass(25), Check.INVALID);
        Check.equal("to the last", x.pass(15), 0);
        Check.equal("month", x.count(2), 999);
        Check.equal("past the last", x.pass(1), Check.LIMIT);
        Check.equal("sell in the last", x.sell(999, 50), 0);
        Check.equal("past", x.sell(998, 50), Check.IMPOSSIBLE);
        x.lot(200, 80);
        Check.equal("meet in the last", x.meet(0), 5000);
    }

    private static void promise11Set() {
        CupReceipts x = new CupReceipts();
        int[] least = {1, 1, 0, 0, 0};
        int[] most = {250, 4095, 50, 50, 999};
        int[] first = {100, 2388, 3, 2, 20};
        for (int what = 0; what < 5; what++) {
            Check.equal("below", x.set(what, least[what] - 1), Check.INVALID);
            Check.equal("above", x.set(what, most[what] + 1), Check.INVALID);
            Check.equal("far below", x.set(what, LEAST), Check.INVALID);
            Check.equal("far above", x.set(what, MOST), Check.INVALID);
            Check.equal("least", x.set(what, least[what]), first[what]);
            Check.equal("most", x.set(what, most[what]), least[what]);
            Check.equal("told", x.count(20 + what), most[what]);
        }
        int[] wrong = {-1, 5, LEAST, MOST};
        for (int what : wrong) {
            Check.equal("set " + what, x.set(what, 1), Check.INVALID);
        }
        Check.equal("to the same", x.set(0, 250), 250);
    }

    private static void promise11SetWhileAContractIsOpen() {
        CupReceipts x = new CupReceipts();
        x.sell(2, 5);
        Check.equal("set 0", x.set(0, 5), Check.IMPOSSIBLE);
        Check.equal("set 0 to the same", x.set(0, 100), Check.IMPOSSIBLE);
        Check.equal("set 0 out of range", x.set(0, 251), Check.INVALID);
        Check.equal("set 1", x.set(1, 1), 2388);
        Check.equal("set 2", x.set(2, 1), 3);
        Check.equal("set 3", x.set(3, 1), 2);
        Check.equal("set 4", x.set(4, 1), 20);
        Check.equal("buyBack", x.buyBack(0, 5), 0);
        Check.equal("set 0", x.set(0, 5), 100);
        x.sell(12, 5);
        x.pass(13);
        Check.equal("it failed", x.set(0, 6), 5);
        Check.equal("for what it was set to", x.count(4), -5);
    }
}
