import com.sun.management.ThreadMXBean;
import java.lang.management.ManagementFactory;

/** Runs of 512 calls on one object, the dearest ones among them, and the room that they take. */
public final class LongRunTest {
    private static final String DEAR_TEXT = "l250,90;s0,900;d0;l250,90;s0,900;d0;l250,90;s0,900;d0;c0;";
    private static final int CALLS = 512;

    private LongRunTest() {
    }

    public static void main(String[] args) {
        manyPlays();
        manyBestMonths();
        manyBigContracts();
        callsTakeNoRoom();
        Check.end("LongRunTest");
    }

    /** Typing, then plays of a text of 57 characters with ten orders up to the last call. */
    private static void manyPlays() {
        CupReceipts x = new CupReceipts();
        Check.equal("set", x.set(0, 250), 100);
        Check.equal("set", x.set(1, 4095), 2388);
        Check.equal("lot", x.lot(999, 60), 0);
        Check.write(x, DEAR_TEXT);
        int calls = 3 + 1 + DEAR_TEXT.length();
        int plays = 0;
        while (calls < CALLS - 5) {
            plays++;
            Check.equal("play " + plays, x.play(), 10);
            calls++;
        }
        // 90: 900 + 30 a bag
        Check.equal("account", x.count(4), plays * 3 * 250 * 930);
        Check.equal("met", x.count(5), plays * 3);
        Check.equal("given", x.count(7), plays * 750);
        Check.equal("made", x.count(9), 1 + plays * 3);
        Check.equal("bags left of the first", x.lotOf(0, 0), 999 - plays);
    }

    private static void manyBestMonths() {
        CupReceipts x = new CupReceipts();
        x.set(0, 250);
        x.set(1, 4095);
        for (int lot = 0; lot < 12; lot++) {
            x.lot(21, 89 + lot);
        }
        x.sell(23, 900);
        for (int calls = 15; calls < CALLS; calls++) {
            switch (calls % 4) {
                case 0:
                    Check.equal("bestMonth", x.bestMonth(900, 0), BEST_MONTH);
                    break;
                case 1:
                    Check.equal("bestMonth", x.bestMonth(900, 1), BEST_GAIN);
                    break;
                case 2:
                    Check.equal("would", x.would(0, 2), 11);
                    break;
                default:
                    Check.equal("given", x.given(0, 11, 1), 19);
            }
        }
    }

    private static final int BEST_MONTH = bestOfTwelve(0);
    private static final int BEST_GAIN = bestOfTwelve(1);

    /** The same by hand: all bags but two of the lot with the least gain, in each of 24 months. */
    private static int bestOfTwelve(int what) {
        int bestMonth = -1;
        int bestGain = 0;
        for (int month = 0; month < 24; month++) {
            int sum = 0;
            int least = Integer.MAX_VALUE;
            for (int lot = 0; lot < 12; lot++) {
                int cup = 89 + lot - month / 4;
                int pay = 900 + 3 * (cup - 80) - 2 * Math.max(0, month - 3);
                int gain = pay - (cup >= 90 ? 300 : 200);
                sum += 21 * gain;
                least = Math.min(least, gain);
            }
            if (bestMonth < 0 || sum - 2 * least > bestGain) {
                bestMonth = month;
                bestGain = sum - 2 * least;
            }
        }
        return what == 0 ? bestMonth : 1000000 + bestGain;
    }

    /** The greatest sums: the account stays exact. */
    private static void manyBigContracts() {
        CupReceipts x = new CupReceipts();
        x.set(0, 250);
        x.set(1, 4095);
        x.set(2, 50);
        int account = 0;
        for (int turn = 0; turn < 44; turn++) {
            x.lot(999, 100);
            for (int contract = 0; contract < 3; contract++) {
                x.sell(0, 999);
                Check.equal("meet", x.meet(0), 250 * 1999);
                account += 250 * 1999;
            }
            x.sell(0, 1);
            Check.equal("buyBack", x.buyBack(0, 999), -249500);
            account -= 249500;
            Check.equal("account", x.count(4), account);
        }
        x.set(4, 999);
        for (int contract = 0; contract < 6; contract++) {
            x.sell(0, 1);
        }
        Check.equal("fail", x.pass(24), 6);
        Check.equal("account", x.count(4), account - 6 * 250 * 999);
        Check.equal("undo", x.undo(), 3);
        Check.equal("account", x.count(4), account);
    }

    private static void callsTakeNoRoom() {
        dearCalls(new CupReceipts());
        CupReceipts x = new CupReceipts();
        ThreadMXBean threads = (ThreadMXBean) ManagementFactory.getThreadMXBean();
        threads.getCurrentThreadAllocatedBytes();
        long before = threads.getCurrentThreadAllocatedBytes();
        dearCalls(x);
        long taken = threads.getCurrentThreadAllocatedBytes() - before;
        Check.isTrue("512 calls take " + taken + " bytes", taken < 10000);
    }

    private static void dearCalls(CupReceipts x) {
        x.set(0, 250);
        x.set(1, 4095);
        x.lot(999, 60);
        for (int place = 0; place < DEAR_TEXT.length(); place++) {
            x.type(DEAR_TEXT.charAt(place));
        }
        x.sell(11, 999);
        for (int turn = 0; turn < 60; turn++) {
            x.play();
            x.fault(turn % 3);
            x.bestMonth(900, turn % 2);
            x.would(0, 3);
            x.given(0, 0, 0);
            x.undo();
            x.lift(0, 1, 80);
        }
    }
}
