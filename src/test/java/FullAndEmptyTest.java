/** What lots, contracts, the text and the history answer when they are full, and when they are empty again. */
public final class FullAndEmptyTest {
    private FullAndEmptyTest() {
    }

    public static void main(String[] args) {
        Check.runAll(FullAndEmptyTest.class);
    }

    private static void promise2To4LotsAreFull() {
        CupReceipts x = Make.twelveLots();
        Check.equal("lot", x.lot(5, 80), Check.LIMIT);
        Check.equal("part", x.part(11, 1), Check.LIMIT);
        Check.equal("blend", x.blend(10, 1, 11, 1), Check.LIMIT);
        Check.equal("cup is possible", x.cup(11), 80);
        Check.equal("lots", x.count(0), 12);
        Check.equal("bags", x.count(1), 119);
        Check.equal("bags to give", x.count(8), 119);
        Check.equal("made", x.count(9), 12);
        Check.equal("the last number", x.numberOf(11), 11);
        Check.equal("no more", x.numberOf(12), Check.MISSING);
        Check.equal("the last lot", x.lotOf(11, 0), 9);
    }

    /** All bags of 12 lots are given for one contract. */
    private static void promise9LotsAreEmptyAgain() {
        CupReceipts x = Make.twelveLots();
        x.set(0, 120);
        x.sell(2, 200);
        x.pass(2);
        Check.equal("all 12 are used up", x.would(0, 2), 12);
        Check.equal("meet", x.meet(0), 24000);
        noLots(x);
        Check.equal("a lot", x.lot(5, 80), 12);
        Check.equal("its number", x.numberOf(0), 12);
        Check.equal("lots", x.count(0), 1);
        for (int lot = 13; lot < 24; lot++) {
            Check.equal("lot", x.lot(5, 80), lot);
        }
        Check.equal("full again", x.lot(5, 80), Check.LIMIT);
        Check.equal("made", x.count(9), 24);
    }

    private static void noLots(CupReceipts x) {
        Check.equal("lots", x.count(0), 0);
        Check.equal("bags", x.count(1), 0);
        Check.equal("bags to give", x.count(8), 0);
        Check.equal("numberOf", x.numberOf(0), Check.MISSING);
        for (int lot = 0; lot < 12; lot++) {
            Check.equal("lotOf", x.lotOf(lot, 0), Check.INVALID);
        }
        Check.equal("part", x.part(0, 1), Check.INVALID);
        Check.equal("blend", x.blend(0, 1, 1, 1), Check.INVALID);
        Check.equal("cup", x.cup(0), Check.INVALID);
        Check.equal("paid", x.paid(0, 5, 0), Check.INVALID);
        Check.equal("lift", x.lift(0, 1, 80), Check.INVALID);
        Check.equal("bestMonth", x.bestMonth(5, 0), Check.MISSING);
        Check.equal("a contract can be sold", x.sell(x.count(2), 5), 0);
        Check.equal("given", x.given(0, 0, 0), Check.MISSING);
        Check.equal("would", x.would(0, 0), Check.IMPOSSIBLE);
        Check.equal("meet", x.meet(0), Check.IMPOSSIBLE);
        Check.equal("buyBack", x.buyBack(0, 5), 0);
    }

    private static void promise21LotsAreEmptyAgainByUndo() {
        CupReceipts x = Make.lots(5, 80, 5, 80);
        x.undo();
        x.undo();
        x.set(1, 4095);
        noLots(x);
        Check.equal("the first again", x.lot(5, 80), 0);
    }

    private static void promise21LotsAreFullAgainByUndo() {
        CupReceipts x = Make.twelveLots();
        Check.equal("blend", x.blend(0, 10, 1, 10), 12);
        Check.equal("lot", x.lot(5, 80), 13);
        x.undo();
        x.undo();
        Check.equal("the 13th", x.lot(5, 80), Check.LIMIT);
        Check.equal("the first is there", x.lotOf(0, 0), 10);
        Check.equal("the new one is not", x.lotOf(12, 0), Check.INVALID);
    }

    /** A full house is emptied one blend after the other, down to one lot. */
    private static void promise4LotsBecomeOne() {
        CupReceipts x = Make.twelveLots();
        for (int blends = 1; blends <= 11; blends++) {
            int one = x.numberOf(0);
            int other = x.numberOf(1);
            Check.equal("blend", x.blend(one, x.lotOf(one, 0), other, x.lotOf(other, 0)), 11 + blends);
            Check.equal("lots", x.count(0), 12 - blends);
        }
        Check.equal("the only one", x.numberOf(0), 22);
        Check.equal("its bags", x.lotOf(22, 0), 120);
        Check.equal("no more", x.numberOf(1), Check.MISSING);
        Check.equal("blend with none", x.blend(22, 1, 21, 1), Check.INVALID);
    }

    private static void promise7ContractsAreFull() {
        CupReceipts x = Make.sixContracts();
        Check.equal("sell", x.sell(2, 5), Check.LIMIT);
        Check.equal("open", x.count(3), 6);
        Check.equal("the last", x.contractOf(5, 1), 60);
        Check.equal("no 7th", x.contractOf(6, 1), Check.INVALID);
        Check.equal("set 0", x.set(0, 5), Check.IMPOSSIBLE);
    }

    private static void noContracts(CupReceipts x) {
        Check.equal("open", x.count(3), 0);
        for (int contract = 0; contract < 6; contract++) {
            Check.equal("contractOf", x.contractOf(contract, 0), Check.INVALID);
        }
        Check.equal("meet", x.meet(0), Check.INVALID);
        Check.equal("buyBack", x.buyBack(0, 5), Check.INVALID);
        Check.equal("given", x.given(0, 0, 0), Check.INVALID);
        Check.equal("would", x.would(0, 0), Check.INVALID);
        Check.isTrue("set 0", x.set(0, x.count(20)) > 0);
        Check.equal("none fails", x.pass(1), 0);
        for (int contract = 0; contract < 6; contract++) {
            Check.equal("sell", x.sell(26, 5), contract);
        }
        Check.equal("full again", x.sell(26, 5), Check.LIMIT);
    }

    private static void promise8ContractsAreEmptyAgain() {
        CupReceipts x = Make.sixContracts();
        for (int left = 5; left >= 0; left--) {
            Check.equal("buyBack", x.buyBack(left, 10 * left + 10), 0);
            Check.equal("open", x.count(3), left);
        }
        noContracts(x);
    }

    private static void promise9ContractsAreEmptyAgain() {
        CupReceipts x = Make.lots(9, 80);
        x.set(0, 1);
        for (int contract = 0; contract < 6; contract++) {
            x.sell(2, 200);
        }
        x.pass(2);
        for (int left = 5; left >= 0; left--) {
            Check.equal("meet", x.meet(left), 200);
            Check.equal("open", x.count(3), left);
        }
        Check.equal("met", x.count(5), 6);
        noContracts(x);
    }

    private static void promise10ContractsAreEmptyAgain() {
        CupReceipts x = Make.sixContracts();
        Check.equal("pass", x.pass(15), 6);
        noContracts(x);
    }

    private static void promise22And23TextIsFull() {
        CupReceipts x = Make.full();
        Check.equal("length", x.count(11), 60);
        Check.equal("type", x.type(';'), Check.LIMIT);
        Check.equal("clearText", x.clearText(), 60);
        emptyText(x);
        Check.write(x, "m1;m1;m1;m1;m1;m1;m1;m1;m1;");
        Check.equal("play", x.play(), 9);
        Check.equal("month", x.count(2), 999);
    }

    private static void emptyText(CupReceipts x) {
        Check.equal("length", x.count(11), 0);
        Check.equal("clearText", x.clearText(), 0);
        for (int what = 0; what < 3; what++) {
            Check.equal("fault", x.fault(what), Check.MISSING);
        }
        Check.equal("play", x.play(), 0);
        Check.equal("type", x.type('m'), 1);
        Check.equal("clearText", x.clearText(), 1);
    }

    /** A short text after a long one: nothing of the long one is behind it. */
    private static void promise23AShortTextAfterALongOne() {
        CupReceipts x = new CupReceipts();
        Check.write(x, Make.LONG_TEXT);
        x.clearText();
        for (char sign : "m2".toCharArray()) {
            x.type(sign);
        }
        Check.equal("reason", x.fault(1), 1);
        Check.equal("cause", x.fault(2), 2);
        x.type(';');
        Check.equal("play", x.play(), 1);
        Check.equal("month", x.count(2), 2);
    }

    private static void promise21HistoryIsFull() {
        CupReceipts x = Make.full();
        Check.equal("states", x.count(10), 4);
        Check.equal("a change", x.worth(0, 5), 100);
        Check.equal("states", x.count(10), 4);
        for (int left = 3; left >= 0; left--) {
            Check.equal("undo", x.undo(), left);
        }
        Check.equal("empty again", x.undo(), Check.IMPOSSIBLE);
        Check.equal("states", x.count(10), 0);
        Check.equal("a change", x.worth(0, 5), 100);
        Check.equal("states", x.count(10), 1);
        Check.equal("undo", x.undo(), 0);
    }

    /** A lot with as many bags as there may be, down to one. */
    private static void promise3To5BagsOfALot() {
        CupReceipts x = Make.bigLot();
        int most = x.blend(x.numberOf(0), 9990, x.lot(9, 80), 9);
        Check.equal("bags", x.lotOf(most, 0), 9999);
        int one = x.lot(1, 80);
        Check.equal("none can be added", x.blend(most, 9999, one, 1), Check.LIMIT);
        Check.equal("cup", x.cup(most), 80);
        int again = x.blend(most, 9998, one, 1);
        Check.equal("bags", x.lotOf(again, 0), 9999);
        Check.equal("part of all", x.part(again, 9999), Check.IMPOSSIBLE);
        int part = x.part(again, 9998);
        Check.equal("bags", x.lotOf(part, 0), 9998);
        Check.equal("one is left", x.lotOf(again, 0), 1);
        Check.equal("cup of one", x.cup(again), Check.IMPOSSIBLE);
        Check.equal("given of the greatest", givenOf(x), 100);
    }

    private static int givenOf(CupReceipts x) {
        x.sell(2, 200);
        return x.given(0, 0, 1) + x.given(0, 1, 1);
    }

    /** "An object is used for at most 512 calls": the last of them is answered like the first ones. */
    private static void promise1To25The512thCall() {
        CupReceipts x = new CupReceipts();
        for (int call = 1; call <= 511; call++) {
            Check.equal("call " + call, x.lot(5, 80), call <= 12 ? call - 1 : Check.LIMIT);
        }
        Check.equal("the 512th", x.undo(), 3);
    }
}
