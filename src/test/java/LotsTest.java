/** Promises 1 to 6, and how cups fall. */
public final class LotsTest {
    private static final int LEAST = Integer.MIN_VALUE;
    private static final int MOST = Integer.MAX_VALUE;

    private LotsTest() {
    }

    public static void main(String[] args) {
        promise1NewObject();
        promise2Lot();
        promise2TwelveLots();
        cupsFall();
        promise3Part();
        promise3PartErrors();
        promise4Blend();
        promise4BlendErrors();
        promise4BlendLimitOfLots();
        promise4BlendLimitOfBags();
        promise5Cup();
        promise6Worth();
        Check.end("LotsTest");
    }

    private static void promise1NewObject() {
        CupReceipts x = new CupReceipts();
        for (int what = 0; what <= 11; what++) {
            Check.equal("new count " + what, x.count(what), 0);
        }
        int[] settings = {100, 2388, 3, 2, 20};
        for (int what = 0; what < 5; what++) {
            Check.equal("new setting " + what, x.count(20 + what), settings[what]);
        }
        Check.equal("new numberOf", x.numberOf(0), Check.MISSING);
        Check.equal("new contractOf", x.contractOf(0, 0), Check.INVALID);
        Check.equal("new undo", x.undo(), Check.IMPOSSIBLE);
        Check.equal("new fault", x.fault(0), Check.MISSING);
        int[] worths = {100, 150, 200, 300};
        for (int band = 0; band < 4; band++) {
            Check.equal("new worth " + band, x.worth(band, 1), worths[band]);
        }
        CupReceipts other = new CupReceipts();
        Check.equal("objects are apart", other.worth(0, 5), 100);
        Check.equal("objects are apart", x.count(10), 4);
        Check.equal("objects are apart", other.count(10), 1);
    }

    private static void promise2Lot() {
        CupReceipts x = new CupReceipts();
        Check.equal("least lot", x.lot(1, 60), 0);
        Check.equal("greatest lot", x.lot(999, 100), 1);
        int[][] wrong = {{0, 80}, {1000, 80}, {-1, 80}, {5, 59}, {5, 101},
            {LEAST, 80}, {MOST, 80}, {5, LEAST}, {5, MOST}};
        for (int[] one : wrong) {
            Check.equal("lot " + one[0] + " " + one[1], x.lot(one[0], one[1]), Check.INVALID);
        }
        Check.equal("lots", x.count(0), 2);
        Check.equal("bags", x.count(1), 1000);
        Check.equal("states", x.count(10), 2);
        Check.equal("pass", x.pass(7), 0);
        Check.equal("later lot", x.lot(5, 90), 2);
        Check.equal("certified now", x.lotOf(2, 2), 7);
        Check.equal("its cup", x.lotOf(2, 1), 90);
        Check.equal("its bags", x.lotOf(2, 0), 5);
        Check.equal("made", x.count(9), 3);
    }

    private static void promise2TwelveLots() {
        CupReceipts x = full();
        Check.equal("13th lot", x.lot(1, 60), Check.LIMIT);
        Check.equal("13th lot of wrong bags", x.lot(0, 60), Check.INVALID);
        Check.equal("13th lot of wrong cup", x.lot(1, 59), Check.INVALID);
        Check.equal("lots", x.count(0), 12);
        Check.equal("made", x.count(9), 12);
        Check.equal("blend frees a place", x.blend(0, 10, 1, 10), 12);
        Check.equal("again a lot", x.lot(1, 60), 13);
    }

    private static void cupsFall() {
        CupReceipts x = new CupReceipts();
        x.lot(5, 80);
        x.lot(5, 61);
        x.lot(5, 60);
        int[] months = {0, 3, 4, 7, 8, 11, 12};
        int[] cups = {80, 80, 79, 79, 78, 78, 77};
        int now = 0;
        for (int i = 0; i < months.length; i++) {
            if (months[i] > now) {
                Check.equal("pass", x.pass(months[i] - now), 0);
                now = months[i];
            }
            Check.equal("cup after " + now, x.lotOf(0, 3), cups[i]);
            Check.equal("certificate after " + now, x.lotOf(0, 1), 80);
            Check.equal("61 after " + now, x.lotOf(1, 3), now < 4 ? 61 : 60);
            Check.equal("60 after " + now, x.lotOf(2, 3), 60);
        }
        for (int turn = 0; turn < 3; turn++) {
            x.pass(24);
        }
        Check.equal("cup after 84", x.lotOf(0, 3), 60);
        Check.equal("cup of a year of it", x.lotOf(0, 6), 0);
    }

    private static void promise3Part() {
        CupReceipts x = new CupReceipts();
        x.lot(10, 90);
        x.pass(8);
        Check.equal("part", x.part(0, 3), 1);
        Check.equal("bags left", x.lotOf(0, 0), 7);
        Check.equal("bags of the new one", x.lotOf(1, 0), 3);
        Check.equal("same cup", x.lotOf(1, 1), 90);
        Check.equal("same month", x.lotOf(1, 2), 0);
        Check.equal("cup now", x.lotOf(1, 3), 88);
        Check.equal("all but one", x.part(0, 6), 2);
        Check.equal("one is left", x.lotOf(0, 0), 1);
        Check.equal("part of the new one", x.part(2, 1), 3);
        Check.equal("bags are as many", x.count(1), 10);
        Check.equal("made", x.count(9), 4);
    }

    private static void promise3PartErrors() {
        CupReceipts x = new CupReceipts();
        x.lot(10, 90);
        Check.equal("no such lot", x.part(1, 1), Check.INVALID);
        Check.equal("no such lot", x.part(-1, 1), Check.INVALID);
        Check.equal("no bags", x.part(0, 0), Check.INVALID);
        Check.equal("bags below 0", x.part(0, LEAST), Check.INVALID);
        Check.equal("as many bags", x.part(0, 10), Check.IMPOSSIBLE);
        Check.equal("too many bags", x.part(0, MOST), Check.IMPOSSIBLE);
        Check.equal("nothing changed", x.count(10), 1);
        CupReceipts y = full();
        Check.equal("13th by part", y.part(0, 1), Check.LIMIT);
        Check.equal("13th with too many bags", y.part(0, 10), Check.IMPOSSIBLE);
        Check.equal("13th of no bags", y.part(0, 0), Check.INVALID);
        Check.equal("bags stay", y.lotOf(0, 0), 10);
    }

    private static void promise4Blend() {
        CupReceipts x = new CupReceipts();
        x.lot(10, 90);
        x.lot(10, 81);
        x.pass(5);
        // now 89 and 80: (3 * 89 + 4 * 80) / 7 = 587 / 7 = 83.8
        Check.equal("blend", x.blend(0, 3, 1, 4), 2);
        Check.equal("bags of one", x.lotOf(0, 0), 7);
        Check.equal("bags of the other", x.lotOf(1, 0), 6);
        Check.equal("bags", x.lotOf(2, 0), 7);
        Check.equal("cup is rounded down", x.lotOf(2, 1), 83);
        Check.equal("month", x.lotOf(2, 2), 5);
        Check.equal("one used up", x.blend(0, 7, 1, 1), 3);
        Check.equal("it is gone", x.lotOf(0, 0), Check.INVALID);
        // (7 * 89 + 80) / 8 = 703 / 8 = 87.8
        Check.equal("cup", x.lotOf(3, 3), 87);
        Check.equal("both used up", x.blend(3, 8, 1, 5), 4);
        Check.equal("gone", x.lotOf(1, 0), Check.INVALID);
        Check.equal("gone", x.lotOf(3, 0), Check.INVALID);
        Check.equal("lots", x.count(0), 2);
        Check.equal("lowest", x.numberOf(0), 2);
        Check.equal("next", x.numberOf(1), 4);
        Check.equal("no number comes again", x.lot(1, 60), 5);
        Check.equal("other used up", x.blend(4, 1, 5, 1), 6);
        Check.equal("gone", x.lotOf(5, 0), Check.INVALID);
        Check.equal("stays", x.lotOf(4, 0), 12);
        Check.equal("a fall by being old", blendOfOldBags(), 60);
        lotsBehindOneThatIsGone();
    }

    private static void lotsBehindOneThatIsGone() {
        CupReceipts x = new CupReceipts();
        for (int month = 0; month < 5; month++) {
            x.lot(10 + month, 80 + month);
            x.pass(1);
        }
        x.blend(0, 10, 2, 12);
        int[] left = {1, 3, 4};
        for (int index = 0; index < 3; index++) {
            int lot = left[index];
            Check.equal("number", x.numberOf(index), lot);
            Check.equal("bags", x.lotOf(lot, 0), 10 + lot);
            Check.equal("cup", x.lotOf(lot, 1), 80 + lot);
            Check.equal("month", x.lotOf(lot, 2), lot);
        }
    }

    private static int blendOfOldBags() {
        CupReceipts x = new CupReceipts();
        x.lot(2, 62);
        x.lot(2, 61);
        x.pass(24);
        return x.lotOf(x.blend(0, 1, 1, 1), 1);
    }

    private static void promise4BlendErrors() {
        CupReceipts x = new CupReceipts();
        x.lot(10, 90);
        x.lot(10, 80);
        int[][] wrong = {{0, 1, 2, 1}, {2, 1, 0, 1}, {0, 1, 0, 1}, {0, 0, 1, 1}, {0, 1, 1, 0}, {0, -1, 1, 1},
            {0, 11, 0, 11}, {0, 11, 1, 0}, {-1, 1, 0, 1}, {0, LEAST, 1, 1}, {0, MOST, 1, LEAST}};
        for (int[] one : wrong) {
            Check.equal("blend", x.blend(one[0], one[1], one[2], one[3]), Check.INVALID);
        }
        Check.equal("too many of one", x.blend(0, 11, 1, 1), Check.IMPOSSIBLE);
        Check.equal("too many of the other", x.blend(0, 1, 1, 11), Check.IMPOSSIBLE);
        Check.equal("far too many", x.blend(0, MOST, 1, MOST), Check.IMPOSSIBLE);
        Check.equal("bags stay", x.count(1), 20);
        Check.equal("states", x.count(10), 2);
    }

    private static void promise4BlendLimitOfLots() {
        CupReceipts x = full();
        Check.equal("13th by blend", x.blend(0, 9, 1, 9), Check.LIMIT);
        Check.equal("too many bags", x.blend(0, 11, 1, 9), Check.IMPOSSIBLE);
        Check.equal("nothing changed", x.count(1), 120);
        Check.equal("one used up", x.blend(0, 10, 1, 9), 12);
        Check.equal("lots", x.count(0), 12);
        Check.equal("13th by blend", x.blend(1, 0, 2, 9), Check.INVALID);
        Check.equal("other used up", x.blend(2, 9, 1, 1), 13);
        Check.equal("lots", x.count(0), 12);
        Check.equal("both used up", x.blend(3, 10, 4, 10), 14);
        Check.equal("lots", x.count(0), 11);
        Check.equal("12th by blend", x.blend(5, 1, 6, 1), 15);
        Check.equal("13th by blend", x.blend(5, 1, 6, 1), Check.LIMIT);
    }

    private static void promise4BlendLimitOfBags() {
        CupReceipts x = new CupReceipts();
        int big = x.lot(999, 80);
        for (int turn = 0; turn < 9; turn++) {
            int bags = x.lotOf(big, 0);
            int more = x.lot(999, 80);
            big = x.blend(big, bags, more, 999);
        }
        Check.equal("bags", x.lotOf(big, 0), 9990);
        int ten = x.lot(10, 80);
        Check.equal("10000 bags", x.blend(big, 9990, ten, 10), Check.LIMIT);
        Check.equal("bags that are not there", x.blend(big, 9991, ten, 9), Check.IMPOSSIBLE);
        int most = x.blend(big, 9990, ten, 9);
        Check.equal("9999 bags", x.lotOf(most, 0), 9999);
        Check.equal("10000 bags", x.blend(most, 9999, ten, 1), Check.LIMIT);
        Check.equal("of ten", x.lotOf(ten, 0), 1);
        Check.equal("9999 bags again", x.lotOf(x.blend(most, 9998, ten, 1), 0), 9999);
    }

    private static void promise5Cup() {
        CupReceipts x = new CupReceipts();
        x.lot(2, 90);
        x.lot(1, 90);
        x.lot(9, 61);
        x.pass(9);
        Check.equal("cup", x.cup(0), 88);
        Check.equal("bags", x.lotOf(0, 0), 1);
        Check.equal("certificate", x.lotOf(0, 1), 88);
        Check.equal("month", x.lotOf(0, 2), 9);
        Check.equal("one bag", x.cup(0), Check.IMPOSSIBLE);
        Check.equal("one bag", x.cup(1), Check.IMPOSSIBLE);
        Check.equal("no such lot", x.cup(3), Check.INVALID);
        Check.equal("no such lot", x.cup(-1), Check.INVALID);
        Check.equal("at least 60", x.cup(2), 60);
        Check.equal("again", x.cup(2), 60);
        Check.equal("bags", x.lotOf(2, 0), 7);
        x.pass(3);
        Check.equal("the fall begins anew", x.lotOf(0, 3), 88);
        x.pass(1);
        Check.equal("the fall begins anew", x.lotOf(0, 3), 87);
    }

    private static void promise6Worth() {
        CupReceipts x = new CupReceipts();
        Check.equal("worth", x.worth(0, 1), 100);
        Check.equal("worth", x.worth(3, 999), 300);
        Check.equal("worth", x.worth(3, 7), 999);
        Check.equal("worth of itself", x.worth(3, 7), 7);
        Check.equal("a change", x.count(10), 4);
        int[][] wrong = {{-1, 5}, {4, 5}, {0, 0}, {0, 1000}, {LEAST, 5}, {MOST, 5}, {1, LEAST}, {1, MOST}};
        for (int[] one : wrong) {
            Check.equal("worth " + one[0] + " " + one[1], x.worth(one[0], one[1]), Check.INVALID);
        }
        int[] cups = {60, 69, 70, 79, 80, 89, 90, 100};
        int[] worths = {1, 1, 150, 150, 200, 200, 7, 7};
        for (int i = 0; i < cups.length; i++) {
            int lot = x.lot(1, cups[i]);
            Check.equal("band of " + cups[i], x.lotOf(lot, 6), i / 2);
            Check.equal("worth of " + cups[i], x.lotOf(lot, 4), worths[i]);
        }
        x.pass(4);
        Check.equal("worth of the cup now", x.lotOf(2, 4), 1);
    }

    private static CupReceipts full() {
        CupReceipts x = new CupReceipts();
        for (int number = 0; number < 12; number++) {
            Check.equal("lot", x.lot(10, 80), number);
        }
        return x;
    }
}
