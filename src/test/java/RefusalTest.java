import java.util.List;
import java.util.function.Supplier;
import java.util.function.ToIntFunction;

/** "A call that returns an error changes nothing": nothing that a later call shows, also within an order of a text. */
public final class RefusalTest {
    private record Refused(String name, int error, ToIntFunction<CupReceipts> call) {
    }

    /** An order, and the call that it stands for. */
    private record Order(String text, int error, ToIntFunction<CupReceipts> call) {
    }

    private RefusalTest() {
    }

    public static void main(String[] args) {
        Check.runAll(RefusalTest.class);
    }

    private static Refused invalid(String name, ToIntFunction<CupReceipts> call) {
        return new Refused(name, Check.INVALID, call);
    }

    private static Refused impossible(String name, ToIntFunction<CupReceipts> call) {
        return new Refused(name, Check.IMPOSSIBLE, call);
    }

    private static Refused limit(String name, ToIntFunction<CupReceipts> call) {
        return new Refused(name, Check.LIMIT, call);
    }

    private static Refused missing(String name, ToIntFunction<CupReceipts> call) {
        return new Refused(name, Check.MISSING, call);
    }

    private static void changeNothing(Supplier<CupReceipts> maker, List<Refused> calls) {
        List<Integer> due = Probe.shown(maker);
        for (Refused refused : calls) {
            Check.same("after " + refused.name, Probe.shown(() -> {
                CupReceipts x = maker.get();
                Check.equal(refused.name, refused.call.applyAsInt(x), refused.error);
                return x;
            }), due);
        }
    }

    private static void promise2RefusedLot() {
        changeNothing(Make::furnished, List.of(invalid("no bags", x -> x.lot(0, 80)),
                invalid("too many bags", x -> x.lot(1000, 80)), invalid("low cup", x -> x.lot(5, 59)),
                invalid("high cup", x -> x.lot(5, 101))));
        changeNothing(Make::full, List.of(limit("the 13th", x -> x.lot(5, 80))));
    }

    private static void promise3RefusedPart() {
        changeNothing(Make::furnished, List.of(invalid("no such lot", x -> x.part(4, 1)),
                invalid("no bags", x -> x.part(0, 0)), impossible("all bags", x -> x.part(0, 20)),
                impossible("of one bag", x -> x.part(2, 1))));
        changeNothing(Make::full, List.of(limit("the 13th", x -> x.part(0, 1))));
    }

    private static void promise4RefusedBlend() {
        changeNothing(Make::furnished, List.of(invalid("the same", x -> x.blend(0, 1, 0, 1)),
                invalid("no such lot", x -> x.blend(4, 1, 0, 1)), invalid("no such other", x -> x.blend(0, 1, 4, 1)),
                invalid("no bags", x -> x.blend(0, 0, 1, 1)), invalid("no bags of it", x -> x.blend(0, 1, 1, 0)),
                impossible("too many", x -> x.blend(0, 21, 1, 1)), impossible("of that", x -> x.blend(0, 1, 1, 31))));
        changeNothing(Make::full, List.of(limit("the 13th", x -> x.blend(0, 1, 1, 1)),
                limit("the 13th", x -> x.blend(11, 20, 10, 19))));
        changeNothing(RefusalTest::bigAndMore, List.of(limit("10000", x -> x.blend(x.numberOf(0), 9990, 19, 10)),
                limit("10000", x -> x.blend(19, 10, x.numberOf(0), 9990))));
    }

    private static CupReceipts bigAndMore() {
        CupReceipts x = Make.bigLot();
        Check.equal("number", x.lot(10, 85), 19);
        return x;
    }

    private static void promise5RefusedCup() {
        changeNothing(Make::furnished, List.of(invalid("no such lot", x -> x.cup(4)), invalid("none", x -> x.cup(-1)),
                impossible("one bag", x -> x.cup(2))));
    }

    private static void promise6RefusedWorth() {
        changeNothing(Make::furnished, List.of(
                invalid("band", x -> x.worth(4, 5)), invalid("band", x -> x.worth(-1, 5)),
                invalid("0", x -> x.worth(3, 0)), invalid("1000", x -> x.worth(3, 1000))));
    }

    private static void promise7RefusedSell() {
        changeNothing(Make::furnished, List.of(invalid("month", x -> x.sell(-1, 5)),
                invalid("month", x -> x.sell(1000, 5)), invalid("price", x -> x.sell(6, 0)),
                invalid("price", x -> x.sell(6, 1000)), impossible("no delivery month", x -> x.sell(5, 5)),
                impossible("past", x -> x.sell(2, 5))));
        changeNothing(Make::full, List.of(limit("the 7th", x -> x.sell(990, 5))));
    }

    private static void promise8RefusedBuyBack() {
        changeNothing(Make::furnished, List.of(invalid("no such one", x -> x.buyBack(2, 5)),
                invalid("no such one", x -> x.buyBack(-1, 5)), invalid("price", x -> x.buyBack(0, 0)),
                invalid("price", x -> x.buyBack(0, 1000))));
    }

    private static void promise9RefusedMeet() {
        changeNothing(Make::furnished, List.of(invalid("no such one", x -> x.meet(2)), invalid("none", x -> x.meet(-1)),
                impossible("not for this month", x -> x.meet(1))));
        changeNothing(RefusalTest::oneBagTooFew, List.of(impossible("one bag too few", x -> x.meet(0)),
                impossible("would", x -> x.would(0, 0)), missing("given", x -> x.given(0, 2, 0)),
                missing("bestMonth", x -> x.bestMonth(5, 0))));
    }

    private static CupReceipts oneBagTooFew() {
        CupReceipts x = Make.lots(50, 80, 49, 90, 500, 69);
        x.pass(2);
        x.sell(2, 200);
        return x;
    }

    private static void promise10RefusedPass() {
        changeNothing(Make::furnished, List.of(invalid("0", x -> x.pass(0)), invalid("25", x -> x.pass(25)),
                invalid("below 0", x -> x.pass(-1))));
        changeNothing(Make::full, List.of(limit("1000", x -> x.pass(10)), limit("1014", x -> x.pass(24))));
    }

    private static void promise11RefusedSet() {
        changeNothing(Make::furnished, List.of(invalid("what", x -> x.set(-1, 5)), invalid("what", x -> x.set(5, 5)),
                invalid("0", x -> x.set(0, 0)), invalid("0", x -> x.set(0, 251)), invalid("1", x -> x.set(1, 0)),
                invalid("1", x -> x.set(1, 4096)), invalid("2", x -> x.set(2, 51)), invalid("3", x -> x.set(3, -1))));
        changeNothing(Make::furnished, List.of(invalid("2", x -> x.set(2, -1)), invalid("3", x -> x.set(3, 51)),
                invalid("4", x -> x.set(4, -1)), invalid("4", x -> x.set(4, 1000)),
                impossible("a contract is open", x -> x.set(0, 11))));
    }

    private static void promise12To20RefusedLooks() {
        changeNothing(Make::furnished, List.of(
                invalid("lotOf", x -> x.lotOf(4, 0)), invalid("lotOf", x -> x.lotOf(0, 7)),
                missing("numberOf", x -> x.numberOf(4)), invalid("contractOf", x -> x.contractOf(2, 0)),
                missing("paid", x -> x.paid(3, 5, 0)), missing("given", x -> x.given(0, 9, 0)),
                invalid("would", x -> x.would(0, 4)), missing("lift", x -> x.lift(0, 3, 100)),
                invalid("bestMonth", x -> x.bestMonth(0, 0)), invalid("count", x -> x.count(12))));
    }

    private static void promise21RefusedUndo() {
        changeNothing(() -> {
            CupReceipts x = Make.furnished();
            while (x.count(10) > 0) {
                x.undo();
            }
            return x;
        }, List.of(impossible("undo", CupReceipts::undo)));
    }

    private static void promise22RefusedType() {
        changeNothing(Make::furnished, List.of(invalid("31", x -> x.type(31)), invalid("127", x -> x.type(127))));
        changeNothing(Make::full, List.of(limit("the 61st", x -> x.type(';')), invalid("and wrong", x -> x.type(127))));
    }

    private static void promise24RefusedFault() {
        changeNothing(Make::furnished, List.of(invalid("-1", x -> x.fault(-1)), invalid("3", x -> x.fault(3)),
                missing("none", x -> x.fault(0))));
    }

    /** Orders for a furnished house with one lot more, 4, that has been cupped. */
    private static final List<Order> ORDERS = List.of(
            new Order("l0,80;", Check.INVALID, x -> x.lot(0, 80)),
            new Order("l1000,80;", Check.INVALID, x -> x.lot(1000, 80)),
            new Order("l5,59;", Check.INVALID, x -> x.lot(5, 59)),
            new Order("l5,101;", Check.INVALID, x -> x.lot(5, 101)),
            new Order("b0,1,0,1;", Check.INVALID, x -> x.blend(0, 1, 0, 1)),
            new Order("b0,1,5,1;", Check.INVALID, x -> x.blend(0, 1, 5, 1)),
            new Order("b0,0,1,1;", Check.INVALID, x -> x.blend(0, 0, 1, 1)),
            new Order("b4,7,1,1;", Check.IMPOSSIBLE, x -> x.blend(4, 7, 1, 1)),
            new Order("b0,1,1,9999;", Check.IMPOSSIBLE, x -> x.blend(0, 1, 1, 9999)),
            new Order("c5;", Check.INVALID, x -> x.cup(5)),
            new Order("c2;", Check.IMPOSSIBLE, x -> x.cup(2)),
            new Order("s1000,5;", Check.INVALID, x -> x.sell(1000, 5)),
            new Order("s6,0;", Check.INVALID, x -> x.sell(6, 0)),
            new Order("s6,1000;", Check.INVALID, x -> x.sell(6, 1000)),
            new Order("s5,5;", Check.IMPOSSIBLE, x -> x.sell(5, 5)),
            new Order("s2,5;", Check.IMPOSSIBLE, x -> x.sell(2, 5)),
            new Order("d2;", Check.INVALID, x -> x.meet(2)),
            new Order("d1;", Check.IMPOSSIBLE, x -> x.meet(1)),
            new Order("m0;", Check.INVALID, x -> x.pass(0)),
            new Order("m25;", Check.INVALID, x -> x.pass(25)));

    /** For a full house, where the orders ahead leave it full. */
    private static final List<Order> ORDERS_OF_A_FULL_HOUSE = List.of(
            new Order("l5,80;", Check.LIMIT, x -> x.lot(5, 80)),
            new Order("b0,1,1,1;", Check.LIMIT, x -> x.blend(0, 1, 1, 1)),
            new Order("s990,5;", Check.LIMIT, x -> x.sell(990, 5)),
            new Order("m10;", Check.LIMIT, x -> x.pass(10)),
            new Order("m24;", Check.LIMIT, x -> x.pass(24)));

    private static CupReceipts textOn(Supplier<CupReceipts> maker, String text) {
        CupReceipts x = maker.get();
        Check.write(x, text);
        return x;
    }

    private static void refusedOrders(Supplier<CupReceipts> maker, String ahead, List<Order> orders) {
        for (Order order : orders) {
            String text = ahead + order.text + "m1;";
            List<Integer> due = Probe.shown(() -> textOn(maker, text));
            Check.same("after faults of " + text, Probe.shown(() -> {
                CupReceipts x = textOn(maker, text);
                Check.equal("position in " + text, x.fault(0), ahead.length());
                Check.equal("reason in " + text, x.fault(1), 2);
                Check.equal("cause in " + text, x.fault(2), order.error);
                return x;
            }), due);
            Check.same("after play of " + text, Probe.shown(() -> {
                CupReceipts x = textOn(maker, text);
                Check.equal("play " + text, x.play(), Check.IMPOSSIBLE);
                return x;
            }), due);
        }
    }

    private static void promise24And25RefusedFirstOrder() {
        refusedOrders(() -> {
            CupReceipts x = Make.furnished();
            x.lot(7, 88);
            x.cup(4);
            return x;
        }, "", ORDERS);
        refusedOrders(Make::full, "", ORDERS_OF_A_FULL_HOUSE);
    }

    /** What the orders ahead of it have done is not there afterwards either. */
    private static void promise24And25RefusedLaterOrder() {
        refusedOrders(Make::furnished, "l7,88;c4;", ORDERS);
        refusedOrders(Make::full, "c1;b2,12,3,1;c4;", ORDERS_OF_A_FULL_HOUSE);
    }

    /** "its cause is ... with the reason 2 the error code that the call returns for it" */
    private static void promise24TheCallReturnsTheSame() {
        for (Order order : ORDERS) {
            CupReceipts x = Make.furnished();
            Check.equal("lot", x.lot(7, 88), 4);
            x.cup(4);
            Check.equal("the call of " + order.text, order.call.applyAsInt(x), order.error);
        }
        for (Order order : ORDERS_OF_A_FULL_HOUSE) {
            Check.equal("the call of " + order.text, order.call.applyAsInt(Make.full()), order.error);
        }
    }

    /** A text that is not of the form further on does nothing either. */
    private static void promise25RefusedForm() {
        String[] texts = {"l7,88;x", "l7,88;m1", "m3;c", "b0,1,1,1;d0", "c0;;", "s6,5;l5,80"};
        for (String text : texts) {
            Check.same("after play of " + text, Probe.shown(() -> {
                CupReceipts x = textOn(Make::furnished, text);
                Check.equal("play " + text, x.play(), Check.IMPOSSIBLE);
                Check.equal("reason in " + text, x.fault(1), 1);
                return x;
            }), Probe.shown(() -> textOn(Make::furnished, text)));
        }
    }
}
