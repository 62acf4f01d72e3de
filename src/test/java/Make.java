/** Houses for the tests: each call makes a new one. */
final class Make {
    /** Ten orders in 60 characters. */
    static final String LONG_TEXT = "m0001;m0001;m0001;m0001;m0001;m0001;m0001;m0001;m0001;m0001;";

    private Make() {
    }

    /** A house with lots, told by their bags and cups in turn. */
    static CupReceipts lots(int... bagsAndCups) {
        CupReceipts x = new CupReceipts();
        for (int i = 0; i + 1 < bagsAndCups.length; i += 2) {
            x.lot(bagsAndCups[i], bagsAndCups[i + 1]);
        }
        return x;
    }

    /** 12 lots of 10 bags with a cup of 80. */
    static CupReceipts twelveLots() {
        CupReceipts x = new CupReceipts();
        for (int lot = 0; lot < 12; lot++) {
            x.lot(10, 80);
        }
        return x;
    }

    /** One bag for a contract, and every month a delivery month. */
    static CupReceipts oneBagContracts(int... bagsAndCups) {
        CupReceipts x = lots(bagsAndCups);
        x.set(0, 1);
        x.set(1, 4095);
        return x;
    }

    /** 6 contracts for the months 2, 4, 6, 8, 11 and 14, at 10, 20 and so on. */
    static CupReceipts sixContracts() {
        CupReceipts x = new CupReceipts();
        int[] months = {2, 4, 6, 8, 11, 14};
        for (int contract = 0; contract < 6; contract++) {
            x.sell(months[contract], 10 * contract + 10);
        }
        return x;
    }

    static CupReceipts atMonth(int month) {
        CupReceipts x = new CupReceipts();
        passTo(x, month);
        return x;
    }

    static void passTo(CupReceipts x, int month) {
        while (x.count(2) < month) {
            x.pass(Math.min(24, month - x.count(2)));
        }
    }

    /** A lot of 9990 bags with a cup of 80; its number is the only one that is left. */
    static CupReceipts bigLot() {
        CupReceipts x = new CupReceipts();
        int big = x.lot(999, 80);
        for (int turn = 0; turn < 9; turn++) {
            big = x.blend(big, x.lotOf(big, 0), x.lot(999, 80), 999);
        }
        return x;
    }

    /** Lots of all bands (20, 30, 1 and 9 bags), contracts for now and for later, a text, 4 states. */
    static CupReceipts furnished() {
        CupReceipts x = lots(20, 85, 30, 95, 11, 75, 9, 65);
        x.set(0, 10);
        x.set(3, 4);
        x.worth(1, 151);
        x.worth(3, 303);
        x.pass(4);
        x.sell(4, 250);
        x.sell(4, 260);
        x.meet(0);
        x.sell(6, 270);
        Check.write(x, "c0;m2;d0;");
        return x;
    }

    /** 12 lots, 6 contracts, a text of 60 characters, and the month 990. */
    static CupReceipts full() {
        CupReceipts x = atMonth(990);
        x.set(0, 7);
        for (int lot = 0; lot < 12; lot++) {
            x.lot(10 + lot, 100 - 3 * lot);
        }
        for (int contract = 0; contract < 6; contract++) {
            x.sell(contract < 3 ? 990 : 992, 100 + 50 * contract);
        }
        Check.write(x, LONG_TEXT);
        return x;
    }
}
