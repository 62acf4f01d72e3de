/** The boundary cases of the promises 1 to 6, and of what the terms say of lots and worths, a test each. */
public final class LotEdgesTest {
    private static final int MOST = Check.MOST;

    private LotEdgesTest() {
    }

    public static void main(String[] args) {
        Check.runAll(LotEdgesTest.class);
    }

    // Promise 1: "Creates an empty house."

    private static void promise1NoLotsAtFirst() {
        CupReceipts x = new CupReceipts();
        Check.equal("lots", x.count(0), 0);
        Check.equal("bags", x.count(1), 0);
        Check.equal("bags to give", x.count(8), 0);
        Check.equal("made", x.count(9), 0);
        Check.equal("the lowest", x.numberOf(0), Check.MISSING);
        Check.equal("lot 0", x.lotOf(0, 0), Check.INVALID);
    }

    private static void promise1NoContractsAtFirst() {
        CupReceipts x = new CupReceipts();
        Check.equal("open", x.count(3), 0);
        Check.equal("contract 0", x.contractOf(0, 0), Check.INVALID);
        Check.equal("met, failed, given", x.count(5) + x.count(6) + x.count(7), 0);
    }

    /** "it is the month 0 at first" */
    private static void promise1Month0AtFirst() {
        Check.equal("month", new CupReceipts().count(2), 0);
    }

    /** "The account is 0 at first." */
    private static void promise1Account0AtFirst() {
        Check.equal("account", new CupReceipts().count(4), 0);
    }

    /** "100, 150, 200 and 300 at first" */
    private static void promise1FirstWorths() {
        int[] worths = {100, 150, 200, 300};
        for (int band = 0; band < 4; band++) {
            Check.equal("band " + band, new CupReceipts().worth(band, 5), worths[band]);
        }
    }

    /** "(in parentheses: range; first value)" */
    private static void promise1FirstSettings() {
        int[] settings = {100, 2388, 3, 2, 20};
        for (int what = 0; what < 5; what++) {
            Check.equal("setting " + what, new CupReceipts().count(20 + what), settings[what]);
        }
    }

    /** "initially empty" */
    private static void promise1EmptyTextAtFirst() {
        Check.equal("length", new CupReceipts().count(11), 0);
        Check.equal("clearText", new CupReceipts().clearText(), 0);
        Check.equal("fault", new CupReceipts().fault(0), Check.MISSING);
        Check.equal("play", new CupReceipts().play(), 0);
    }

    private static void promise1EmptyHistoryAtFirst() {
        Check.equal("states", new CupReceipts().count(10), 0);
        Check.equal("undo", new CupReceipts().undo(), Check.IMPOSSIBLE);
    }

    private static void promise1ObjectsAreApart() {
        CupReceipts x = Make.furnished();
        Check.same("a new one beside another", Probe.shown(CupReceipts::new), Probe.shown(CupReceipts::new));
        Check.equal("new lots", new CupReceipts().count(0), 0);
        Check.equal("its own lots", x.count(0), 4);
    }

    /** "The constants: ..." */
    private static void promise1Constants() {
        Check.equal("INVALID_ARGUMENT", CupReceipts.INVALID_ARGUMENT, -2000000001);
        Check.equal("NOT_POSSIBLE", CupReceipts.NOT_POSSIBLE, -2000000002);
        Check.equal("LIMIT_REACHED", CupReceipts.LIMIT_REACHED, -2000000003);
        Check.equal("NOT_FOUND", CupReceipts.NOT_FOUND, -2000000004);
    }

    // Promise 2: lot

    /** "bags: 1 to 999" */
    private static void promise2Bags1To999() {
        Check.range("bags", 1, 999, bags -> new CupReceipts().lot(bags, 80));
        Check.equal("1 bag", Make.lots(1, 80).lotOf(0, 0), 1);
        Check.equal("999 bags", Make.lots(999, 80).lotOf(0, 0), 999);
    }

    /** "cup: 60 to 100" */
    private static void promise2Cup60To100() {
        Check.range("cup", 60, 100, cup -> new CupReceipts().lot(5, cup));
        Check.equal("cup 60", Make.lots(5, 60).lotOf(0, 1), 60);
        Check.equal("cup 100", Make.lots(5, 100).lotOf(0, 1), 100);
    }

    /** "Brings a lot, certified now." */
    private static void promise2CertifiedNow() {
        int[] months = {0, 1, 998, 999};
        for (int month : months) {
            CupReceipts x = Make.atMonth(month);
            Check.equal("number", x.lot(5, 80), 0);
            Check.equal("month of its certificate", x.lotOf(0, 2), month);
            Check.equal("its cup now", x.lotOf(0, 3), 80);
        }
    }

    /** "each with a number (0, 1, 2 and so on, in the order in which they were made; no number comes again)" */
    private static void promise2NoNumberComesAgain() {
        CupReceipts x = Make.lots(1, 80, 1, 80);
        Check.equal("blend of all", x.blend(0, 1, 1, 1), 2);
        Check.equal("next", x.lot(5, 80), 3);
        Check.equal("a part", x.part(3, 1), 4);
        Check.equal("next", x.lot(5, 80), 5);
        CupReceipts y = Make.oneBagContracts(1, 80);
        y.sell(0, 5);
        y.meet(0);
        Check.equal("none is there", y.count(0), 0);
        Check.equal("next after none", y.lot(1, 80), 1);
    }

    /** "LIMIT_REACHED if there are 12 lots" */
    private static void promise2TwelveLotsAtMost() {
        CupReceipts x = new CupReceipts();
        for (int lot = 0; lot < 12; lot++) {
            Check.equal("lot", x.lot(1, 60), lot);
        }
        Check.equal("the 13th", x.lot(1, 60), Check.LIMIT);
        Check.equal("again", x.lot(999, 100), Check.LIMIT);
        Check.equal("lots", x.count(0), 12);
        Check.equal("made", x.count(9), 12);
    }

    private static void promise2InvalidRatherThanLimit() {
        Check.equal("bags", Make.twelveLots().lot(0, 80), Check.INVALID);
        Check.equal("bags", Make.twelveLots().lot(1000, 80), Check.INVALID);
        Check.equal("cup", Make.twelveLots().lot(5, 59), Check.INVALID);
        Check.equal("cup", Make.twelveLots().lot(5, 101), Check.INVALID);
    }

    // Promise 3: part

    /** "number of the lot"; "if there is none with it (any more), this is INVALID_ARGUMENT" */
    private static void promise3NoSuchLot() {
        Check.range("lot", 0, 3, lot -> Make.lots(5, 80, 5, 80, 5, 80, 5, 80).part(lot, 1));
        Check.range("of those left", 2, 2, lot -> goneAreTheFirstTwo().part(lot, 1));
        Check.equal("of none", new CupReceipts().part(0, 1), Check.INVALID);
    }

    private static CupReceipts goneAreTheFirstTwo() {
        CupReceipts x = Make.lots(5, 80, 5, 80);
        x.blend(0, 5, 1, 5);
        return x;
    }

    /** "bags: 1 or more" */
    private static void promise3Bags1OrMore() {
        Check.range("bags", 1, MOST, bags -> Make.lots(5, 80).part(0, bags));
        CupReceipts x = Make.lots(5, 80);
        Check.equal("1 bag", x.part(0, 1), 1);
        Check.equal("has 1", x.lotOf(1, 0), 1);
        Check.equal("left", x.lotOf(0, 0), 4);
    }

    /** "NOT_POSSIBLE if the lot has not more bags" */
    private static void promise3TheLotHasMoreBags() {
        Check.equal("one less than all", Make.lots(5, 80).part(0, 4), 1);
        Check.equal("all", Make.lots(5, 80).part(0, 5), Check.IMPOSSIBLE);
        Check.equal("one more than all", Make.lots(5, 80).part(0, 6), Check.IMPOSSIBLE);
        Check.equal("the most", Make.lots(5, 80).part(0, MOST), Check.IMPOSSIBLE);
        Check.equal("of one bag", Make.lots(1, 80).part(0, 1), Check.IMPOSSIBLE);
        Check.equal("of two bags", Make.lots(2, 80).part(0, 1), 1);
        Check.equal("of two bags", Make.lots(2, 80).part(0, 2), Check.IMPOSSIBLE);
    }

    private static void promise3AllButOne() {
        CupReceipts x = Make.bigLot();
        int big = x.numberOf(0);
        int most = x.part(big, 9989);
        Check.equal("of 9990", x.lotOf(most, 0), 9989);
        Check.equal("is left", x.lotOf(big, 0), 1);
        Check.equal("is no more to be parted", x.part(big, 1), Check.IMPOSSIBLE);
        Check.equal("bags are as many", x.count(1), 9990);
    }

    /** "LIMIT_REACHED if there are 12 lots" */
    private static void promise3TwelveLotsAtMost() {
        CupReceipts x = Make.lots(100, 80);
        for (int lot = 1; lot < 12; lot++) {
            Check.equal("part", x.part(0, 2), lot);
        }
        Check.equal("the 13th", x.part(0, 2), Check.LIMIT);
        Check.equal("the 13th, of a part", x.part(11, 1), Check.LIMIT);
        Check.equal("bags stay", x.lotOf(0, 0), 78);
    }

    private static void promise3OrderOfErrors() {
        Check.equal("no bags, 12 lots", Make.twelveLots().part(0, 0), Check.INVALID);
        Check.equal("no such lot, too many bags, 12 lots", Make.twelveLots().part(12, 99), Check.INVALID);
        Check.equal("too many bags, 12 lots", Make.twelveLots().part(0, 10), Check.IMPOSSIBLE);
        Check.equal("12 lots", Make.twelveLots().part(0, 9), Check.LIMIT);
    }

    /** "a new lot with the same certificate has some of its bags" */
    private static void promise3SameCertificate() {
        CupReceipts x = new CupReceipts();
        x.pass(1);
        x.lot(5, 80);
        x.pass(8);
        Check.equal("part", x.part(0, 2), 1);
        Check.equal("cup of its certificate, not of now", x.lotOf(1, 1), 80);
        Check.equal("month of it, not of now", x.lotOf(1, 2), 1);
        Check.equal("the first has it still", x.lotOf(0, 1) + x.lotOf(0, 2), 81);
        Check.equal("cup now", x.lotOf(1, 3), 78);
    }

    // Promise 4: blend

    private static void promise4NoSuchLot() {
        Check.range("one", 0, 2, lot -> Make.lots(5, 80, 5, 80, 5, 80).blend(lot, 1, lot == 1 ? 0 : 1, 1));
        Check.range("other", 0, 2, lot -> Make.lots(5, 80, 5, 80, 5, 80).blend(lot == 1 ? 0 : 1, 1, lot, 1));
        CupReceipts x = goneAreTheFirstTwo();
        x.lot(5, 80);
        Check.equal("one that is gone", x.blend(0, 1, 3, 1), Check.INVALID);
        Check.equal("other that is gone", x.blend(3, 1, 1, 1), Check.INVALID);
        Check.equal("of none", new CupReceipts().blend(0, 1, 1, 1), Check.INVALID);
    }

    /** "INVALID_ARGUMENT if ... both are the same" */
    private static void promise4BothAreTheSame() {
        Check.equal("the same", Make.lots(5, 80, 5, 80).blend(0, 1, 0, 1), Check.INVALID);
        Check.equal("the same", Make.lots(5, 80, 5, 80).blend(1, 1, 1, 1), Check.INVALID);
        Check.equal("the same, too many bags", Make.lots(5, 80, 5, 80).blend(1, 9, 1, 9), Check.INVALID);
        Check.equal("either way", Make.lots(5, 80, 5, 80).blend(0, 1, 1, 1), 2);
        Check.equal("either way", Make.lots(5, 80, 5, 80).blend(1, 1, 0, 1), 2);
    }

    /** "1 or more: bags of it"; "1 or more: bags of that" */
    private static void promise4Bags1OrMore() {
        Check.range("bags", 1, MOST, bags -> Make.lots(5, 80, 5, 80).blend(0, bags, 1, 1));
        Check.range("withBags", 1, MOST, bags -> Make.lots(5, 80, 5, 80).blend(0, 1, 1, bags));
        CupReceipts x = Make.lots(5, 80, 5, 80);
        Check.equal("one of each", x.lotOf(x.blend(0, 1, 1, 1), 0), 2);
        Check.equal("left of one", x.lotOf(0, 0), 4);
        Check.equal("left of the other", x.lotOf(1, 0), 4);
    }

    /** "NOT_POSSIBLE if a lot has not so many bags" */
    private static void promise4NotSoManyBags() {
        Check.equal("all of one", Make.lots(5, 80, 7, 80).blend(0, 5, 1, 1), 2);
        Check.equal("more of one", Make.lots(5, 80, 7, 80).blend(0, 6, 1, 1), Check.IMPOSSIBLE);
        Check.equal("all of the other", Make.lots(5, 80, 7, 80).blend(0, 1, 1, 7), 2);
        Check.equal("more of the other", Make.lots(5, 80, 7, 80).blend(0, 1, 1, 8), Check.IMPOSSIBLE);
        Check.equal("the most of both", Make.lots(5, 80, 7, 80).blend(0, MOST, 1, MOST), Check.IMPOSSIBLE);
        Check.equal("together below 0 by a wrap", Make.lots(5, 80, 7, 80).blend(0, MOST, 1, 1), Check.IMPOSSIBLE);
    }

    /** "LIMIT_REACHED if there would be more than 12 lots (those that are used up are gone first)" */
    private static void promise4TwelveLotsAtMost() {
        Check.equal("none is used up", Make.twelveLots().blend(0, 9, 1, 9), Check.LIMIT);
        Check.equal("one is used up", Make.twelveLots().blend(0, 10, 1, 9), 12);
        Check.equal("the other is used up", Make.twelveLots().blend(0, 9, 1, 10), 12);
        Check.equal("both are used up", Make.twelveLots().blend(0, 10, 1, 10), 12);
        CupReceipts x = Make.twelveLots();
        x.blend(0, 10, 1, 10);
        Check.equal("12th of 11", x.blend(2, 1, 3, 1), 13);
        Check.equal("13th of 12", x.blend(2, 1, 3, 1), Check.LIMIT);
        Check.equal("bags stay", x.lotOf(2, 0), 9);
        Check.equal("lots", x.count(0), 12);
    }

    /** "or more than 9999 bags in the new one" */
    private static void promise4Bags9999AtMost() {
        CupReceipts x = Make.bigLot();
        int big = x.numberOf(0);
        int more = x.lot(20, 80);
        Check.equal("10000 bags", x.blend(big, 9990, more, 10), Check.LIMIT);
        Check.equal("10000 bags, the other way", x.blend(more, 10, big, 9990), Check.LIMIT);
        Check.equal("10010 bags of both", x.blend(big, 9990, more, 20), Check.LIMIT);
        Check.equal("bags stay", x.lotOf(big, 0) + x.lotOf(more, 0), 10010);
        Check.equal("9999 bags", x.lotOf(x.blend(big, 9990, more, 9), 0), 9999);
        Check.equal("left", x.lotOf(more, 0), 11);
    }

    private static void promise4OrderOfErrors() {
        Check.equal("no bags, too many", Make.twelveLots().blend(0, 0, 1, 11), Check.INVALID);
        Check.equal("no such lot, too many", Make.twelveLots().blend(0, 11, 12, 1), Check.INVALID);
        Check.equal("too many, 12 lots", Make.twelveLots().blend(0, 11, 1, 1), Check.IMPOSSIBLE);
        Check.equal("too many, more than 9999", Make.twelveLots().blend(0, 9999, 1, 1), Check.IMPOSSIBLE);
        Check.equal("12 lots", Make.twelveLots().blend(0, 1, 1, 1), Check.LIMIT);
    }

    /** "All divisions are rounded down." */
    private static void promise4CupIsRoundedDown() {
        Check.equal("241 / 3", blended(Make.lots(1, 81, 2, 80), 1, 2), 80);
        Check.equal("242 / 3", blended(Make.lots(2, 81, 1, 80), 2, 1), 80);
        Check.equal("243 / 3", blended(Make.lots(2, 81, 1, 81), 2, 1), 81);
        Check.equal("160 / 2", blended(Make.lots(1, 60, 1, 100), 1, 1), 80);
        Check.equal("998 of 100 and 1 of 99", blended(Make.lots(998, 100, 1, 99), 998, 1), 99);
        Check.equal("the least", blended(Make.lots(1, 60, 1, 60), 1, 1), 60);
        Check.equal("the most", blended(Make.lots(999, 100, 999, 100), 999, 999), 100);
    }

    private static int blended(CupReceipts x, int bags, int withBags) {
        return x.lotOf(x.blend(0, bags, 1, withBags), 1);
    }

    /** "the bags of each times its cup now"; "its month of certificate is now" */
    private static void promise4CupsOfNow() {
        CupReceipts x = Make.lots(4, 84, 4, 80);
        x.pass(4);
        Check.equal("83 and 79", x.lotOf(x.blend(0, 1, 1, 1), 1), 81);
        Check.equal("month", x.lotOf(2, 2), 4);
        x.pass(3);
        Check.equal("after 3 months", x.lotOf(2, 3), 81);
        x.pass(1);
        Check.equal("after 4 months", x.lotOf(2, 3), 80);
        Check.equal("82 and 80", x.lotOf(x.blend(0, 1, 2, 1), 1), 81);
    }

    /** "A lot that has no bags left is gone." */
    private static void promise4NoBagsLeftIsGone() {
        CupReceipts x = Make.lots(2, 80, 3, 80);
        x.blend(0, 1, 1, 3);
        Check.equal("one bag is left", x.lotOf(0, 0), 1);
        Check.equal("the other is gone", x.lotOf(1, 0), Check.INVALID);
        Check.equal("lots", x.count(0), 2);
        x.blend(0, 1, 2, 4);
        Check.equal("one is gone", x.lotOf(0, 0), Check.INVALID);
        Check.equal("the other is gone", x.lotOf(2, 0), Check.INVALID);
        Check.equal("lots", x.count(0), 1);
        Check.equal("the only one", x.numberOf(0), 3);
    }

    private static void promise4TheOthersStayAsTheyWere() {
        CupReceipts x = new CupReceipts();
        for (int lot = 0; lot < 5; lot++) {
            x.lot(10 + lot, 80 + lot);
            x.pass(1);
        }
        x.blend(0, 10, 2, 12);
        int[] left = {1, 3, 4};
        for (int lot : left) {
            Check.equal("bags of " + lot, x.lotOf(lot, 0), 10 + lot);
            Check.equal("cup of " + lot, x.lotOf(lot, 1), 80 + lot);
            Check.equal("month of " + lot, x.lotOf(lot, 2), lot);
        }
    }

    // Promise 5: cup

    private static void promise5NoSuchLot() {
        Check.range("lot", 0, 2, lot -> Make.lots(5, 80, 5, 80, 5, 80).cup(lot));
        Check.range("of those left", 2, 2, lot -> goneAreTheFirstTwo().cup(lot));
        Check.equal("of none", new CupReceipts().cup(0), Check.INVALID);
    }

    /** "NOT_POSSIBLE if it has one bag" */
    private static void promise5OneBagIsNotCupped() {
        CupReceipts x = Make.lots(3, 80);
        Check.equal("of 3", x.cup(0), 80);
        Check.equal("of 2", x.cup(0), 80);
        Check.equal("one is left", x.lotOf(0, 0), 1);
        Check.equal("of 1", x.cup(0), Check.IMPOSSIBLE);
        Check.equal("one is left", x.lotOf(0, 0), 1);
    }

    /** "By cupping anew a lot loses one bag ..., its certificate has the cup of now, and the month of now." */
    private static void promise5CertificateOfNow() {
        CupReceipts x = Make.lots(9, 80);
        Check.equal("at once", x.cup(0), 80);
        Check.equal("loses a bag all the same", x.lotOf(0, 0), 8);
        x.pass(3);
        Check.equal("after 3 months", x.cup(0), 80);
        Check.equal("month", x.lotOf(0, 2), 3);
        x.pass(3);
        Check.equal("3 months later", x.lotOf(0, 3), 80);
        x.pass(1);
        Check.equal("4 months later", x.cup(0), 79);
        Check.equal("cup", x.lotOf(0, 1), 79);
        Check.equal("month", x.lotOf(0, 2), 7);
        Check.equal("bags", x.lotOf(0, 0), 6);
    }

    /** "but at least 60" */
    private static void promise5CupAtLeast60() {
        CupReceipts x = Make.lots(9, 61);
        x.pass(4);
        Check.equal("just 60", x.cup(0), 60);
        x.pass(4);
        Check.equal("not below", x.cup(0), 60);
        Check.equal("certificate", x.lotOf(0, 1), 60);
    }

    // Promise 6: worth

    /** "band: 0 to 3" */
    private static void promise6Band0To3() {
        Check.range("band", 0, 3, band -> new CupReceipts().worth(band, 5));
    }

    /** "1 to 999" */
    private static void promise6Worth1To999() {
        for (int band = 0; band < 4; band++) {
            int asked = band;
            Check.range("worth", 1, 999, worth -> new CupReceipts().worth(asked, worth));
            CupReceipts x = Make.lots(5, 60 + 10 * band);
            x.worth(band, 1);
            Check.equal("1", x.lotOf(0, 4), 1);
            Check.equal("was 1", x.worth(band, 999), 1);
            Check.equal("999", x.lotOf(0, 4), 999);
            Check.equal("was 999", x.worth(band, 999), 999);
        }
    }

    private static void promise6OtherBandsStay() {
        for (int band = 0; band < 4; band++) {
            CupReceipts x = Make.lots(5, 65, 5, 75, 5, 85, 5, 95);
            x.worth(band, 7);
            int[] worths = {100, 150, 200, 300};
            worths[band] = 7;
            for (int lot = 0; lot < 4; lot++) {
                Check.equal("worth of band " + lot, x.lotOf(lot, 4), worths[lot]);
            }
        }
    }

    // Terms: lots and worths

    /** "less 1 for each 4 months since then" */
    private static void promise12CupFallsBy1InEach4Months() {
        for (int months = 0; months <= 24; months++) {
            CupReceipts x = new CupReceipts();
            Make.passTo(x, 2);
            x.lot(5, 90);
            Make.passTo(x, 2 + months);
            Check.equal("after " + months, x.lotOf(0, 3), 90 - months / 4);
        }
    }

    /** "but at least 60" */
    private static void promise12CupAtLeast60() {
        CupReceipts x = Make.lots(5, 60, 5, 61, 5, 100);
        Check.equal("60 at once", x.lotOf(0, 3), 60);
        x.pass(4);
        Check.equal("60 after 4", x.lotOf(0, 3), 60);
        Check.equal("61 after 4", x.lotOf(1, 3), 60);
        x.pass(4);
        Check.equal("61 after 8", x.lotOf(1, 3), 60);
        Make.passTo(x, 159);
        Check.equal("100 after 159", x.lotOf(2, 3), 61);
        x.pass(1);
        Check.equal("100 after 160", x.lotOf(2, 3), 60);
        Make.passTo(x, 999);
        Check.equal("100 after 999", x.lotOf(2, 3), 60);
        Check.equal("its certificate", x.lotOf(2, 1), 100);
    }

    /** "0: 60 to 69, 1: 70 to 79, 2: 80 to 89, 3: 90 to 100" */
    private static void promise12Bands() {
        int[] worths = {100, 150, 200, 300};
        for (int cup = 60; cup <= 100; cup++) {
            int band = cup == 100 ? 3 : (cup - 60) / 10;
            CupReceipts x = Make.lots(5, cup);
            Check.equal("band of " + cup, x.lotOf(0, 6), band);
            Check.equal("worth of " + cup, x.lotOf(0, 4), worths[band]);
        }
    }

    /** "The worth of a lot for a bag is that of the band of its cup now." */
    private static void promise12WorthOfTheCupNow() {
        int[] cups = {70, 80, 90};
        for (int cup : cups) {
            CupReceipts x = Make.lots(5, cup);
            int band = x.lotOf(0, 6);
            x.pass(3);
            Check.equal("band after 3 months", x.lotOf(0, 6), band);
            x.pass(1);
            Check.equal("band after 4 months", x.lotOf(0, 6), band - 1);
            x.worth(band - 1, 77);
            Check.equal("its worth", x.lotOf(0, 4), 77);
        }
    }
}
