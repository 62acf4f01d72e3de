import java.util.List;

/** Promise 21, which calls are changes, calls with an error, and the order of errors. */
public final class ChangesTest {
    private ChangesTest() {
    }

    public static void main(String[] args) {
        promise21Undo();
        promise21UndoOfEveryChange();
        changesStandOnTheHouseAlone();
        promise21UndoLeavesTheText();
        promise21AtMostFourStates();
        promise21ChangesAfterUndo();
        onlyChangesAreRecorded();
        errorsChangeNothing();
        orderOfErrors();
        Check.end("ChangesTest");
    }

    private static void promise21Undo() {
        CupReceipts x = new CupReceipts();
        Check.equal("empty", x.undo(), Check.IMPOSSIBLE);
        x.lot(5, 80);
        x.lot(6, 81);
        Check.equal("undo", x.undo(), 1);
        Check.equal("the first stays", x.lotOf(0, 0), 5);
        Check.equal("the second is gone", x.lotOf(1, 0), Check.INVALID);
        Check.equal("not made", x.count(9), 1);
        Check.equal("its number", x.lot(7, 82), 1);
        Check.equal("undo", x.undo(), 1);
        Check.equal("undo", x.undo(), 0);
        Check.equal("empty", x.undo(), Check.IMPOSSIBLE);
        Check.equal("no lots", x.count(0), 0);
    }

    /** Each change on a house that has all there is: undo brings back all that can be told. */
    private static void promise21UndoOfEveryChange() {
        for (int kind = 0; kind < 13; kind++) {
            CupReceipts x = furnished();
            List<Integer> before = Check.view(x);
            int states = x.count(10);
            Check.isTrue("change " + kind + " has no error", !isError(change(x, kind)));
            Check.equal("states after change " + kind, x.count(10), Math.min(4, states + 1));
            Check.equal("undo of change " + kind, x.undo(), Math.min(3, states));
            List<Integer> after = Check.view(x);
            before.set(10, after.get(10));
            Check.isTrue("undo of change " + kind + " restores", before.equals(after));
            Check.equal("worth of a band", x.worth(2, 1), 201);
        }
    }

    /** What was tried by fault or play, or undone, leaves no trace in the next change. */
    private static void changesStandOnTheHouseAlone() {
        for (int kind = 0; kind < 13; kind++) {
            CupReceipts x = furnished();
            Check.write(x, "l7,77;b0,3,1,3;s14,9;m3;c1;d9;");
            Check.equal("fault", x.fault(2), Check.INVALID);
            Check.equal("play", x.play(), Check.IMPOSSIBLE);
            change(x, kind);
            sameHouse("change " + kind + " after a fault", x, kind);
            CupReceipts y = furnished();
            y.set(2, 9);
            y.lot(8, 88);
            y.pass(1);
            for (int left = 3; left > 0; left--) {
                Check.equal("undo", y.undo(), left);
            }
            change(y, kind);
            sameHouse("change " + kind + " after undo", y, kind);
        }
    }

    private static void sameHouse(String what, CupReceipts x, int kind) {
        CupReceipts due = furnished();
        change(due, kind);
        List<Integer> got = Check.view(x);
        List<Integer> wanted = Check.view(due);
        got.set(10, wanted.get(10));
        Check.isTrue(what, got.equals(wanted));
        for (int band = 0; band < 4; band++) {
            Check.equal(what + ": worth", x.worth(band, 1), due.worth(band, 1));
        }
    }

    private static int change(CupReceipts x, int kind) {
        switch (kind) {
            case 0:
                return x.lot(5, 80);
            case 1:
                return x.part(0, 5);
            case 2:
                return x.blend(0, 10, 1, 5);
            case 3:
                return x.cup(1);
            case 4:
                return x.worth(2, 999);
            case 5:
                return x.sell(14, 5);
            case 6:
                return x.buyBack(0, 999);
            case 7:
                return x.meet(0);
            case 8:
                return x.pass(5);
            case 9:
                return x.set(1, 17);
            case 10:
                return x.set(4, 17);
            case 11:
                Check.write(x, "b0,1,1,1;m3;");
                return x.play();
            default:
                x.clearText();
                return x.play();
        }
    }

    private static CupReceipts furnished() {
        CupReceipts x = new CupReceipts();
        x.set(0, 10);
        x.set(3, 4);
        x.worth(2, 201);
        x.lot(20, 85);
        x.lot(30, 90);
        x.pass(2);
        x.sell(2, 150);
        x.sell(2, 160);
        x.sell(4, 170);
        x.meet(1);
        x.lot(9, 66);
        return x;
    }

    private static boolean isError(int answer) {
        return answer <= Check.INVALID;
    }

    private static void promise21UndoLeavesTheText() {
        CupReceipts x = new CupReceipts();
        Check.write(x, "l5,80;");
        x.lot(5, 80);
        x.type('m');
        Check.equal("undo", x.undo(), 0);
        Check.equal("length", x.count(11), 7);
        Check.equal("the text", x.fault(0), 6);
        x.lot(5, 80);
        x.clearText();
        Check.equal("undo", x.undo(), 0);
        Check.equal("length", x.count(11), 0);
    }

    private static void promise21AtMostFourStates() {
        CupReceipts x = new CupReceipts();
        for (int lots = 1; lots <= 11; lots++) {
            x.lot(lots, 80);
            Check.equal("states", x.count(10), Math.min(4, lots));
        }
        for (int left = 3; left >= 0; left--) {
            Check.equal("undo", x.undo(), left);
            Check.equal("lots", x.count(0), 7 + left);
            Check.equal("bags of the last", x.lotOf(6 + left, 0), 7 + left);
        }
        Check.equal("undo", x.undo(), Check.IMPOSSIBLE);
        Check.equal("lots", x.count(0), 7);
    }

    private static void promise21ChangesAfterUndo() {
        CupReceipts x = new CupReceipts();
        for (int lots = 0; lots < 6; lots++) {
            x.lot(10 + lots, 80);
        }
        x.undo();
        x.undo();
        x.lot(50, 90);
        x.cup(0);
        x.cup(0);
        Check.equal("states", x.count(10), 4);
        Check.equal("undo", x.undo(), 3);
        Check.equal("bags", x.lotOf(0, 0), 9);
        Check.equal("undo", x.undo(), 2);
        Check.equal("bags", x.lotOf(0, 0), 10);
        Check.equal("undo", x.undo(), 1);
        Check.equal("lots", x.count(0), 4);
        Check.equal("undo", x.undo(), 0);
        Check.equal("lots", x.count(0), 3);
    }

    private static void onlyChangesAreRecorded() {
        CupReceipts x = new CupReceipts();
        x.lot(10, 80);
        Check.equal("states", x.count(10), 1);
        x.lotOf(0, 0);
        x.numberOf(0);
        x.contractOf(0, 0);
        x.paid(0, 5, 0);
        x.given(0, 0, 0);
        x.would(0, 0);
        x.lift(0, 1, 80);
        x.bestMonth(5, 0);
        x.type('l');
        x.clearText();
        x.fault(0);
        Check.equal("states", x.count(10), 1);
        x.sell(2, 5);
        Check.equal("buying back below 0 is a change", x.buyBack(0, 999), -99400);
        Check.equal("states", x.count(10), 3);
        x.worth(0, 100);
        Check.equal("a change to the same", x.count(10), 4);
    }

    private static void errorsChangeNothing() {
        CupReceipts x = furnished();
        while (x.count(0) < 12) {
            x.lot(50, 80);
        }
        Check.write(x, "l5,80;");
        List<Integer> before = Check.view(x);
        int[] answers = {x.lot(5, 80), x.lot(0, 80), x.part(0, 1), x.part(0, 999), x.part(99, 1),
            x.blend(0, 1, 1, 1), x.blend(0, 999, 1, 1), x.blend(0, 1, 0, 1), x.cup(99), x.worth(4, 5),
            x.sell(3, 5), x.sell(-1, 5), x.sell(1, 5), x.buyBack(0, 0), x.buyBack(9, 5), x.meet(1), x.meet(-1),
            x.pass(0), x.pass(25), x.set(0, 5), x.set(0, 0), x.play(), x.type(5), x.fault(9), x.count(12)};
        for (int i = 0; i < answers.length; i++) {
            Check.isTrue("an error " + i, isError(answers[i]));
        }
        Check.isTrue("nothing has changed", before.equals(Check.view(x)));
        Check.equal("nor the text", x.count(11), 6);
        Check.equal("nor the worths", x.worth(2, 1), 201);
    }

    private static void orderOfErrors() {
        CupReceipts x = new CupReceipts();
        for (int number = 0; number < 12; number++) {
            x.lot(5, 69);
        }
        x.pass(3);
        for (int contract = 0; contract < 6; contract++) {
            x.sell(4, 5);
        }
        Check.equal("lot: invalid, full", x.lot(0, 80), Check.INVALID);
        Check.equal("part: invalid, full", x.part(0, 0), Check.INVALID);
        Check.equal("part: invalid, too many", x.part(12, 99), Check.INVALID);
        Check.equal("part: too many, full", x.part(0, 5), Check.IMPOSSIBLE);
        Check.equal("blend: invalid, too many", x.blend(0, 6, 1, 0), Check.INVALID);
        Check.equal("blend: the same, too many", x.blend(0, 6, 0, 6), Check.INVALID);
        Check.equal("blend: too many, full", x.blend(0, 1, 1, 6), Check.IMPOSSIBLE);
        Check.equal("blend: too many bags of both, more than 9999", x.blend(0, 9999, 1, 9999), Check.IMPOSSIBLE);
        Check.equal("sell: invalid, past", x.sell(2, 0), Check.INVALID);
        Check.equal("sell: past, full", x.sell(2, 5), Check.IMPOSSIBLE);
        Check.equal("sell: no delivery month, full", x.sell(5, 5), Check.IMPOSSIBLE);
        Check.equal("sell: full", x.sell(4, 5), Check.LIMIT);
        Check.equal("set: invalid, open", x.set(0, 0), Check.INVALID);
        Check.equal("meet: invalid", x.meet(6), Check.INVALID);
        Check.equal("given: invalid, none", x.given(0, 0, 2), Check.INVALID);
        Check.equal("would: invalid, not enough", x.would(0, 4), Check.INVALID);
        Check.equal("paid: invalid, cannot be given", x.paid(0, 0, 0), Check.INVALID);
        Check.equal("lift: invalid, no number", x.lift(0, 0, 100), Check.INVALID);
        Check.equal("bestMonth: invalid, none", x.bestMonth(0, 0), Check.INVALID);
        Check.equal("fault: invalid, none", x.fault(3), Check.INVALID);
        Check.equal("numberOf: invalid", x.numberOf(-1), Check.INVALID);
        for (int turn = 0; turn < 41; turn++) {
            x.pass(24);
        }
        Check.equal("pass: invalid, too far", x.pass(25), Check.INVALID);
        Check.equal("pass: too far", x.pass(24), Check.LIMIT);
    }
}
