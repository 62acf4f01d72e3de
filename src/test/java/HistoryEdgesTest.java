import java.util.List;
import java.util.function.Supplier;
import java.util.function.ToIntFunction;

/** The boundary cases of promise 21, and of what the terms say of changes: which are kept, and how many. */
public final class HistoryEdgesTest {
    private record Change(String name, ToIntFunction<CupReceipts> call) {
    }

    /** One of each kind, done on a furnished house. */
    private static final List<Change> CHANGES = List.of(
            new Change("lot", x -> x.lot(5, 80)),
            new Change("part", x -> x.part(0, 5)),
            new Change("blend", x -> x.blend(0, 20, 1, 5)),
            new Change("cup", x -> x.cup(0)),
            new Change("worth 0", x -> x.worth(0, 5)),
            new Change("worth 1", x -> x.worth(1, 5)),
            new Change("worth 2", x -> x.worth(2, 5)),
            new Change("worth 3", x -> x.worth(3, 5)),
            new Change("sell", x -> x.sell(8, 5)),
            new Change("buyBack below 0", x -> x.buyBack(0, 999)),
            new Change("buyBack above 0", x -> x.buyBack(1, 1)),
            new Change("meet", x -> x.meet(0)),
            new Change("pass", x -> x.pass(3)),
            new Change("set 1", x -> x.set(1, 4095)),
            new Change("set 2", x -> x.set(2, 0)),
            new Change("set 3", x -> x.set(3, 0)),
            new Change("set 4", x -> x.set(4, 0)),
            new Change("play", CupReceipts::play),
            new Change("worth to the same", x -> x.worth(3, 303)),
            new Change("set to the same", x -> x.set(4, 20)),
            new Change("buyBack for nothing", x -> x.buyBack(0, 260)));

    private HistoryEdgesTest() {
    }

    public static void main(String[] args) {
        Check.runAll(HistoryEdgesTest.class);
    }

    /** "NOT_POSSIBLE if it is empty" */
    private static void promise21EmptyHistory() {
        CupReceipts x = new CupReceipts();
        Check.equal("of a new one", x.undo(), Check.IMPOSSIBLE);
        x.lot(5, 80);
        Check.equal("of one state", x.undo(), 0);
        Check.equal("of none again", x.undo(), Check.IMPOSSIBLE);
        Check.equal("states", x.count(10), 0);
        Check.same("undo of none changes nothing", Probe.shown(() -> {
            CupReceipts y = new CupReceipts();
            y.undo();
            return y;
        }), Probe.shown(CupReceipts::new));
    }

    /** "Returns the number of states that are left in the history" */
    private static void promise21StatesThatAreLeft() {
        for (int changes = 1; changes <= 7; changes++) {
            CupReceipts x = new CupReceipts();
            for (int change = 1; change <= changes; change++) {
                x.worth(0, change);
                Check.equal("states", x.count(10), Math.min(4, change));
            }
            for (int left = Math.min(4, changes) - 1; left >= 0; left--) {
                Check.equal("left of " + changes, x.undo(), left);
                Check.equal("states", x.count(10), left);
            }
            Check.equal("no more of " + changes, x.undo(), Check.IMPOSSIBLE);
        }
    }

    /** "if there are 5 states then, the oldest one is dropped" */
    private static void promise21TheOldestIsDropped() {
        CupReceipts x = new CupReceipts();
        for (int bags = 1; bags <= 5; bags++) {
            x.lot(bags, 80);
        }
        for (int left = 3; left >= 0; left--) {
            Check.equal("undo", x.undo(), left);
            Check.equal("lots", x.count(0), left + 1);
        }
        Check.equal("the state before the first is dropped", x.undo(), Check.IMPOSSIBLE);
        Check.equal("lots", x.count(0), 1);
        CupReceipts four = Make.lots(1, 80, 2, 80, 3, 80, 4, 80);
        for (int left = 3; left >= 0; left--) {
            Check.equal("undo of four", four.undo(), left);
        }
        Check.equal("the state before the first is kept", four.count(0), 0);
    }

    /** "which is removed from it": a change after it is kept in its place. */
    private static void promise21TheLatestIsRemoved() {
        CupReceipts x = Make.lots(1, 80, 2, 80, 3, 80, 4, 80);
        x.undo();
        x.undo();
        x.lot(30, 90);
        Check.equal("states", x.count(10), 3);
        Check.equal("undo", x.undo(), 2);
        Check.equal("the new one is gone", x.count(0), 2);
        Check.equal("undo", x.undo(), 1);
        Check.equal("the first is left", x.lotOf(0, 0), 1);
        Check.equal("the second is gone", x.lotOf(1, 0), Check.INVALID);
    }

    /** A change after undo stands on what was restored: what was undone shows in none of its kinds. */
    private static void promise21ChangesAfterUndo() {
        for (Change change : CHANGES) {
            CupReceipts x = furnishedInThreeChanges();
            x.pass(1);
            Check.equal("undo", x.undo(), 3);
            CupReceipts y = furnishedInThreeChanges();
            Check.equal(change.name, change.call.applyAsInt(x), change.call.applyAsInt(y));
            Check.same(change.name, Check.view(x), Check.view(y));
        }
    }

    /** "Restores the latest state of the history" */
    private static void promise21RestoresEverythingBeforeTheChange() {
        for (Change change : CHANGES) {
            Supplier<CupReceipts> before = HistoryEdgesTest::furnishedInThreeChanges;
            Check.same(change.name, Probe.shown(() -> {
                CupReceipts x = before.get();
                Check.isTrue(change.name + " is done", !Check.isError(change.call.applyAsInt(x)));
                Check.equal("states after " + change.name, x.count(10), 4);
                Check.equal("undo of " + change.name, x.undo(), 3);
                return x;
            }), Probe.shown(before));
        }
    }

    /** As a furnished house, but most of it by one change. */
    private static CupReceipts furnishedInThreeChanges() {
        CupReceipts x = new CupReceipts();
        x.set(0, 10);
        x.worth(3, 303);
        Check.write(x, "l20,85;l30,95;l1,75;l9,65;m4;s4,260;s6,270;");
        Check.equal("play", x.play(), 7);
        Check.write(x, "c0;m2;d0;");
        return x;
    }

    /** The same with four states: the oldest is lost, all else is as it was. */
    private static void promise21RestoresWithFourStates() {
        for (Change change : CHANGES) {
            Supplier<CupReceipts> changed = () -> {
                CupReceipts x = Make.furnished();
                Check.isTrue(change.name + " is done", !Check.isError(change.call.applyAsInt(x)));
                Check.equal("states after " + change.name, x.count(10), 4);
                Check.equal("undo of " + change.name, x.undo(), 3);
                return x;
            };
            Check.same(change.name, Probe.shownWithoutHistory(changed),
                    Probe.shownWithoutHistory(Make::furnished));
            for (int undos = 1; undos <= 3; undos++) {
                int asked = undos;
                Check.same(undos + " more after " + change.name,
                        Probe.shownWithoutHistory(() -> undone(changed, asked)),
                        Probe.shownWithoutHistory(() -> undone(Make::furnished, asked)));
            }
        }
    }

    private static CupReceipts undone(Supplier<CupReceipts> maker, int times) {
        CupReceipts x = maker.get();
        for (int undo = 0; undo < times; undo++) {
            Check.isTrue("undone", x.undo() >= 0);
        }
        return x;
    }

    /** "each change records everything before it but the text" */
    private static void promise21TheTextIsNotRestored() {
        CupReceipts x = new CupReceipts();
        x.type('m');
        x.lot(5, 80);
        x.type('1');
        x.type(';');
        Check.equal("undo", x.undo(), 0);
        Check.equal("what was typed after the change stays", x.count(11), 3);
        Check.equal("it is the text", x.play(), 1);
        x.clearText();
        Check.equal("undo of play", x.undo(), 0);
        Check.equal("what was cleared after the change stays so", x.count(11), 0);
        Check.equal("month", x.count(2), 0);
    }

    /** "The changes are the calls of lot, part, ... and play that return no error." */
    private static void promise21EachChangeIsKept() {
        for (Change change : CHANGES) {
            CupReceipts x = furnishedInThreeChanges();
            Check.isTrue(change.name + " is done", !Check.isError(change.call.applyAsInt(x)));
            Check.equal("states after " + change.name, x.count(10), 4);
        }
    }

    /** No other call is a change. */
    private static void promise21NoOtherCallIsKept() {
        List<Change> looks = List.of(
                new Change("lotOf", x -> x.lotOf(0, 0)),
                new Change("numberOf", x -> x.numberOf(0)),
                new Change("contractOf", x -> x.contractOf(0, 0)),
                new Change("paid", x -> x.paid(0, 5, 0)),
                new Change("given", x -> x.given(0, 0, 0)),
                new Change("would", x -> x.would(0, 0)),
                new Change("lift", x -> x.lift(0, 1, 90)),
                new Change("bestMonth", x -> x.bestMonth(5, 0)),
                new Change("count", x -> x.count(0)),
                new Change("fault", x -> x.fault(0)));
        for (Change look : looks) {
            Check.same(look.name, Probe.shown(() -> {
                CupReceipts x = Make.furnished();
                look.call.applyAsInt(x);
                return x;
            }), Probe.shown(Make::furnished));
        }
        CupReceipts y = Make.lots(5, 80);
        y.type('m');
        y.clearText();
        Check.equal("type and clearText", y.count(10), 1);
    }

    /** "everything": what so far was made, met, failed and given is restored, and the numbers that were told. */
    private static void promise21CountsAreRestored() {
        CupReceipts x = Make.oneBagContracts(5, 80);
        x.sell(0, 9);
        x.sell(0, 9);
        x.meet(0);
        x.pass(1);
        Check.equal("failed", x.count(6), 1);
        x.undo();
        Check.equal("failed", x.count(6), 0);
        Check.equal("account", x.count(4), 9);
        x.undo();
        Check.equal("met", x.count(5), 0);
        Check.equal("given", x.count(7), 0);
        Check.equal("account", x.count(4), 0);
        Check.equal("lot", x.lot(5, 80), 1);
        x.undo();
        Check.equal("made", x.count(9), 1);
        Check.equal("the lot that comes then", x.lot(7, 81), 1);
    }

    /** A lot that is gone, and a contract behind which others moved up, are there again as they were. */
    private static void promise21WhatIsGoneComesBack() {
        CupReceipts x = Make.lots(5, 80, 6, 70, 7, 90);
        x.blend(0, 5, 1, 6);
        x.undo();
        for (int lot = 0; lot < 3; lot++) {
            Check.equal("number", x.numberOf(lot), lot);
            Check.equal("bags", x.lotOf(lot, 0), 5 + lot);
        }
        CupReceipts y = Make.sixContracts();
        y.buyBack(2, 5);
        y.undo();
        for (int contract = 0; contract < 6; contract++) {
            Check.equal("price", y.contractOf(contract, 1), 10 * contract + 10);
        }
        Check.equal("the 7th", y.sell(14, 5), Check.LIMIT);
    }

    /** A full history after 512 calls is still one of 4 states. */
    private static void promise21ManyChanges() {
        CupReceipts x = new CupReceipts();
        for (int call = 1; call <= 505; call++) {
            x.worth(0, call);
        }
        Check.equal("states", x.count(10), 4);
        for (int left = 3; left >= 0; left--) {
            Check.equal("undo", x.undo(), left);
        }
        Check.equal("undo", x.undo(), Check.IMPOSSIBLE);
        Check.equal("the worth four changes ago", x.worth(0, 7), 501);
    }
}
