import java.util.ArrayList;
import java.util.List;
import java.util.function.Supplier;

/** All that later calls can show of an object: of two that were treated alike it is the same. */
final class Probe {
    private static final int KINDS_OF_CHANGES = 10;

    private Probe() {
    }

    /** Each part is asked of an object of its own, since asking some of it is a change, and an object has 512 calls. */
    static List<Integer> shown(Supplier<CupReceipts> maker) {
        List<Integer> shown = new ArrayList<>(Check.view(maker.get()));
        shown.addAll(ofLots(maker.get()));
        shown.addAll(ofLifts(maker.get()));
        shown.addAll(ofContracts(maker.get()));
        for (int undos = 1; undos <= 5; undos++) {
            shown.addAll(ofThePast(maker.get(), undos));
        }
        shown.addAll(ofWorths(maker.get()));
        shown.addAll(ofTheText(maker.get()));
        for (int kind = 0; kind < KINDS_OF_CHANGES; kind++) {
            shown.addAll(ofTheFuture(maker.get(), kind));
        }
        return shown;
    }

    /** What is shown if the history is left out: how many states there are, and what undo brings back. */
    static List<Integer> shownWithoutHistory(Supplier<CupReceipts> maker) {
        List<Integer> view = Check.view(maker.get());
        view.remove(10);
        view.addAll(ofLots(maker.get()));
        view.addAll(ofLifts(maker.get()));
        view.addAll(ofContracts(maker.get()));
        view.addAll(ofWorths(maker.get()));
        return view;
    }

    private static List<Integer> ofLots(CupReceipts x) {
        List<Integer> shown = new ArrayList<>();
        for (int index = 0; index < x.count(0); index++) {
            int lot = x.numberOf(index);
            shown.add(x.lotOf(lot, 5));
            shown.add(x.lotOf(lot, 6));
            shown.add(x.paid(lot, 200, 0));
            shown.add(x.paid(lot, 200, 1));
        }
        shown.add(x.bestMonth(200, 0));
        shown.add(x.bestMonth(200, 1));
        return shown;
    }

    private static List<Integer> ofLifts(CupReceipts x) {
        List<Integer> shown = new ArrayList<>();
        for (int index = 0; index < x.count(0); index++) {
            shown.add(x.lift(x.numberOf(index), x.numberOf(0), 80));
            shown.add(x.lift(x.numberOf(0), x.numberOf(index), 82));
        }
        return shown;
    }

    private static List<Integer> ofContracts(CupReceipts x) {
        List<Integer> shown = new ArrayList<>();
        for (int contract = 0; contract < x.count(3); contract++) {
            for (int what = 0; what < 4; what++) {
                shown.add(x.would(contract, what));
            }
            for (int place = 0; place < 12; place++) {
                shown.add(x.given(contract, place, 0));
                shown.add(x.given(contract, place, 1));
            }
        }
        return shown;
    }

    private static List<Integer> ofThePast(CupReceipts x, int undos) {
        List<Integer> shown = new ArrayList<>();
        for (int undo = 0; undo < undos; undo++) {
            shown.add(x.undo());
        }
        shown.addAll(Check.view(x));
        shown.addAll(ofWorths(x));
        return shown;
    }

    private static List<Integer> ofWorths(CupReceipts x) {
        List<Integer> shown = new ArrayList<>();
        for (int band = 0; band < 4; band++) {
            shown.add(x.worth(band, 7));
        }
        return shown;
    }

    private static List<Integer> ofTheText(CupReceipts x) {
        List<Integer> shown = new ArrayList<>();
        shown.add(x.count(11));
        shown.addAll(faults(x));
        shown.add(x.play());
        shown.addAll(Check.view(x));
        shown.add(x.type('x'));
        shown.addAll(faults(x));
        shown.add(x.clearText());
        shown.addAll(faults(x));
        return shown;
    }

    private static List<Integer> faults(CupReceipts x) {
        return List.of(x.fault(0), x.fault(1), x.fault(2));
    }

    /** What each change would do next: something hidden in the object may show in one kind alone. */
    private static List<Integer> ofTheFuture(CupReceipts x, int kind) {
        List<Integer> shown = new ArrayList<>();
        shown.add(change(x, kind));
        shown.addAll(Check.view(x));
        shown.add(x.pass(1));
        shown.add(x.count(4));
        return shown;
    }

    private static int change(CupReceipts x, int kind) {
        int one = x.numberOf(0);
        int other = x.numberOf(1);
        switch (kind) {
            case 0:
                return x.lot(3, 90);
            case 1:
                return x.part(one, 2);
            case 2:
                return x.blend(one, x.lotOf(one, 0), other, 1);
            case 3:
                return x.cup(one);
            case 4:
                return x.worth(2, 5);
            case 5:
                return x.sell(x.count(2) + 2, 5);
            case 6:
                return x.buyBack(0, 5);
            case 7:
                return x.meet(0);
            case 8:
                return x.pass(8);
            default:
                return x.set(4, 321);
        }
    }
}
