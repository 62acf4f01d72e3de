/** The boundary cases of the promises 22 to 25, and of what the terms say of texts: a test for each sentence. */
public final class TextEdgesTest {
    private static final int NONE = Check.MISSING;
    /** The longest order there is: 21 characters. */
    private static final String LONGEST = "b0000,0001,0001,0001;";

    private TextEdgesTest() {
    }

    public static void main(String[] args) {
        Check.runAll(TextEdgesTest.class);
    }

    private static void fault(CupReceipts x, String text, int position, int reason, int cause) {
        Check.write(x, text);
        Check.equal("position of " + text, x.fault(0), position);
        Check.equal("reason of " + text, x.fault(1), reason);
        Check.equal("cause of " + text, x.fault(2), cause);
        Check.equal("play " + text, x.play(), Check.IMPOSSIBLE);
    }

    private static void plays(CupReceipts x, String text, int orders) {
        Check.write(x, text);
        for (int what = 0; what < 3; what++) {
            Check.equal("fault " + what + " of " + text, x.fault(what), NONE);
        }
        Check.equal("play " + text, x.play(), orders);
    }

    /** A text of a piece as often as told, and an end. */
    private static String times(int times, String piece, String end) {
        StringBuilder text = new StringBuilder();
        for (int time = 0; time < times; time++) {
            text.append(piece);
        }
        return text.append(end).toString();
    }

    // Promise 22: type

    /** "character: 32 to 126" */
    private static void promise22Character32To126() {
        Check.range("character", 32, 126, character -> new CupReceipts().type(character));
        for (int character = 32; character <= 126; character++) {
            Check.equal("type " + character, new CupReceipts().type(character), 1);
        }
        int[] wraps = {59 + 256, 59 + 65536, 59 - 65536, 59 - 256, 59 + (1 << 31)};
        for (int character : wraps) {
            CupReceipts x = new CupReceipts();
            Check.equal("type " + character, x.type(character), Check.INVALID);
            Check.equal("length", x.count(11), 0);
        }
    }

    /** "Returns the length of the text" */
    private static void promise22LengthOfTheText() {
        CupReceipts x = new CupReceipts();
        for (int length = 1; length <= 60; length++) {
            Check.equal("type", x.type('m'), length);
            Check.equal("length", x.count(11), length);
        }
    }

    /** "LIMIT_REACHED if it has 60 characters" */
    private static void promise22SixtyCharactersAtMost() {
        CupReceipts x = new CupReceipts();
        Check.write(x, times(59, "m", ""));
        Check.equal("the 60th", x.type('1'), 60);
        Check.equal("the 61st", x.type(';'), Check.LIMIT);
        Check.equal("again", x.type('1'), Check.LIMIT);
        Check.equal("length", x.count(11), 60);
    }

    private static void promise22InvalidRatherThanLimit() {
        int[] wrong = {31, 127, -1, Check.LEAST, Check.MOST};
        for (int character : wrong) {
            Check.equal("type " + character, Make.full().type(character), Check.INVALID);
        }
        Check.equal("type 32", Make.full().type(32), Check.LIMIT);
        Check.equal("type 126", Make.full().type(126), Check.LIMIT);
    }

    // Promise 23: clearText

    /** "Returns the length it had." */
    private static void promise23LengthItHad() {
        for (int length = 0; length <= 60; length++) {
            CupReceipts x = new CupReceipts();
            Check.write(x, times(length, "c", ""));
            Check.equal("clearText", x.clearText(), length);
            Check.equal("length", x.count(11), 0);
            Check.equal("again", x.clearText(), 0);
        }
    }

    /** "Empties the text." */
    private static void promise23IsEmptyThen() {
        CupReceipts x = new CupReceipts();
        Check.write(x, "x1;m1;");
        Check.equal("it has a fault", x.fault(0), 0);
        x.clearText();
        Check.equal("it has none", x.fault(0), NONE);
        Check.equal("the first character", x.type('m'), 1);
        Check.equal("nothing behind it", x.fault(2), 1);
        plays(x, "m1;", 1);
        Check.equal("month", x.count(2), 1);
    }

    // Promise 24: fault

    /** "what: 0: its position; 1: its reason; 2: its cause" */
    private static void promise24What0To2() {
        Check.range("what", 0, 2, what -> new CupReceipts().fault(what));
        Check.range("what of a fault", 0, 2, what -> {
            CupReceipts x = new CupReceipts();
            x.type('x');
            return x.fault(what);
        });
    }

    /** "NOT_FOUND if the text has no fault (also if it is empty)" */
    private static void promise24NoFault() {
        plays(new CupReceipts(), "", 0);
        plays(new CupReceipts(), "m1;", 1);
        plays(Make.lots(5, 80), "c0;c0;c0;c0;", 4);
    }

    /** "The fault of the text is the position, from 0, of the first character of the first order" */
    private static void promise24Position() {
        fault(new CupReceipts(), "x", 0, 1, 0);
        fault(new CupReceipts(), "c0;", 0, 2, Check.INVALID);
        fault(new CupReceipts(), "m1;x", 3, 1, 0);
        fault(new CupReceipts(), "m1;c0;", 3, 2, Check.INVALID);
        fault(new CupReceipts(), "m0001;m01;c0;x", 10, 2, Check.INVALID);
        fault(new CupReceipts(), "m0001;m01;x;c0;", 10, 1, 0);
        fault(new CupReceipts(), times(19, "m1;", "x;;"), 57, 1, 0);
        fault(new CupReceipts(), times(19, "m1;", "c0;"), 57, 2, Check.INVALID);
    }

    /** "numbers of 1 to 4 digits, 0 ahead allowed" */
    private static void promise24NumbersOf1To4Digits() {
        String[] numbers = {"1", "01", "001", "0001"};
        for (String number : numbers) {
            plays(new CupReceipts(), "m" + number + ";", 1);
            plays(Make.lots(5, 80, 5, 80), "c" + number + ";", 1);
            plays(new CupReceipts(), "l" + number + ",80;l5,0080;", 2);
            plays(Make.lots(5, 80, 5, 80), "b" + number + "," + number + ",0," + number + ";", 1);
            plays(new CupReceipts(), "s2," + number + ";s02,5;s002,5;s0002,5;", 4);
        }
        fault(new CupReceipts(), "m00001;", 0, 1, 5);
        fault(new CupReceipts(), "m;", 0, 1, 1);
        fault(new CupReceipts(), "m00000;", 0, 1, 5);
    }

    private static void promise24NumbersOfEachPlace() {
        fault(new CupReceipts(), "l00001,80;", 0, 1, 5);
        fault(new CupReceipts(), "l1,00080;", 0, 1, 7);
        fault(new CupReceipts(), "l,80;", 0, 1, 1);
        fault(new CupReceipts(), "l1,;", 0, 1, 3);
        fault(new CupReceipts(), "s00002,5;", 0, 1, 5);
        fault(new CupReceipts(), "s2,00005;", 0, 1, 7);
        fault(new CupReceipts(), "d00000;", 0, 1, 5);
        fault(new CupReceipts(), "c00000;", 0, 1, 5);
        fault(new CupReceipts(), "b00000,1,1,1;", 0, 1, 5);
        fault(new CupReceipts(), "b0,00001,1,1;", 0, 1, 7);
        fault(new CupReceipts(), "b0,1,00001,1;", 0, 1, 9);
        fault(new CupReceipts(), "b0,1,1,00001;", 0, 1, 11);
        fault(new CupReceipts(), "b,1,1,1;", 0, 1, 1);
        fault(new CupReceipts(), "b0,,1,1;", 0, 1, 3);
        fault(new CupReceipts(), "b0,1,,1;", 0, 1, 5);
        fault(new CupReceipts(), "b0,1,1,;", 0, 1, 7);
    }

    private static void promise24GreatestNumbers() {
        fault(new CupReceipts(), "m9999;", 0, 2, Check.INVALID);
        fault(new CupReceipts(), "l9999,9999;", 0, 2, Check.INVALID);
        fault(new CupReceipts(), "s9999,9999;", 0, 2, Check.INVALID);
        fault(new CupReceipts(), "d9999;", 0, 2, Check.INVALID);
        fault(Make.lots(5, 80, 5, 80), "b0,9999,1,9999;", 0, 2, Check.IMPOSSIBLE);
        fault(Make.lots(5, 80, 5, 80), "b9999,1,1,1;", 0, 2, Check.INVALID);
        plays(new CupReceipts(), "l999,100;l1,60;m24;", 3);
        plays(Make.oneBagContracts(), "s999,999;s0,1;", 2);
    }

    /** "at which character of the order, from 0, it breaks off": each character of each kind of order is wrong once. */
    private static void promise24EachCharacterWrong() {
        String[] orders = {"l12,80;", "b0,1,1,1;", "c0;", "s2,999;", "d0;", "m24;"};
        for (String order : orders) {
            for (int place = 0; place < order.length(); place++) {
                String wrong = order.substring(0, place) + "x" + order.substring(place + 1);
                fault(new CupReceipts(), wrong, 0, 1, place);
                fault(new CupReceipts(), "m1;m01;" + wrong, 7, 1, place);
            }
        }
    }

    /** "of one that the text ends too early it is its length" */
    private static void promise24TheTextEndsTooEarly() {
        String[] orders = {"l12,80;", "b0,1,1,1;", "c0;", "s2,999;", "d0;", "m24;", LONGEST};
        for (String order : orders) {
            for (int length = 1; length < order.length(); length++) {
                fault(new CupReceipts(), order.substring(0, length), 0, 1, length);
                fault(new CupReceipts(), "m1;" + order.substring(0, length), 3, 1, length);
            }
        }
    }

    /** The text ends too early since it is full. */
    private static void promise24AFullTextEndsTooEarly() {
        CupReceipts x = new CupReceipts();
        fault(x, times(19, "m1;", "m24"), 57, 1, 3);
        Check.equal("no place for its end", x.type(';'), Check.LIMIT);
        fault(Make.lots(50, 80, 50, 80), times(2, LONGEST, "m1;m1;m1;l999,80m1"), 51, 1, 7);
        fault(Make.lots(50, 80, 50, 80), times(2, LONGEST, "b0000,0001,0001,00"), 42, 1, 18);
        fault(new CupReceipts(), times(20, "m1;", "").substring(1), 0, 1, 0);
    }

    /** Other signs in the place of the right ones: letters that look alike, signs beside 0 and 9, blanks. */
    private static void promise24NoOtherCharacters() {
        int[] others = {' ', '/', ':', 'L', 'M', 'a', 'e', 'k', 'n', '~', '-', '+', ';', ',', '0', '9'};
        for (int other : others) {
            fault(new CupReceipts(), (char) other + "1;", 0, 1, 0);
        }
        int[] noDigits = {' ', '/', ':', 'l', '-', '+', ';', ','};
        for (int other : noDigits) {
            fault(new CupReceipts(), "m" + (char) other + ";", 0, 1, 1);
        }
        int[] noEnds = {' ', '/', ':', ',', 'm'};
        for (int other : noEnds) {
            fault(new CupReceipts(), "m1" + (char) other, 0, 1, 2);
            fault(new CupReceipts(), "l5" + (char) (other == ',' ? ';' : other) + "80;", 0, 1, 2);
        }
        fault(new CupReceipts(), "m1;;", 3, 1, 0);
        fault(new CupReceipts(), "m1; ", 3, 1, 0);
        fault(new CupReceipts(), " m1;", 0, 1, 0);
    }

    /** "otherwise 2, when those ahead of it are done" */
    private static void promise24ThoseAheadAreDone() {
        fault(new CupReceipts(), "c0;", 0, 2, Check.INVALID);
        plays(new CupReceipts(), "l5,80;c0;", 2);
        fault(new CupReceipts(), "c0;l5,80;", 0, 2, Check.INVALID);
        fault(new CupReceipts(), "l2,80;c0;c0;", 9, 2, Check.IMPOSSIBLE);
        plays(Make.oneBagContracts(1, 80), "s1,5;m1;d0;", 3);
        fault(Make.oneBagContracts(1, 80), "s1,5;m1;d0;d0;", 11, 2, Check.INVALID);
        fault(Make.oneBagContracts(1, 80), "s1,5;m2;d0;", 8, 2, Check.INVALID);
        fault(Make.oneBagContracts(1, 80), "s1,5;m1;s0,5;", 8, 2, Check.IMPOSSIBLE);
    }

    /** "The fault of the text is ... of the first order that is not possible": those behind it are not looked at. */
    private static void promise24TheFirstFault() {
        fault(new CupReceipts(), "m1;c0;x", 3, 2, Check.INVALID);
        fault(new CupReceipts(), "m1;x;c0;", 3, 1, 0);
        fault(new CupReceipts(), "m25;m24", 0, 2, Check.INVALID);
        fault(new CupReceipts(), "m24;m25", 4, 1, 3);
    }

    /** "LIMIT_REACHED" of each order that can return it. */
    private static void promise24LimitsAsCauses() {
        fault(Make.twelveLots(), "l5,80;", 0, 2, Check.LIMIT);
        fault(Make.twelveLots(), "b0,1,1,1;", 0, 2, Check.LIMIT);
        plays(Make.twelveLots(), "b0,10,1,10;l5,80;", 2);
        fault(Make.twelveLots(), "b0,10,1,10;l5,80;l5,80;", 17, 2, Check.LIMIT);
        fault(Make.sixContracts(), "s4,5;", 0, 2, Check.LIMIT);
        plays(Make.sixContracts(), "m3;s4,5;", 2);
        fault(Make.sixContracts(), "m3;s4,5;s4,5;", 8, 2, Check.LIMIT);
        fault(Make.atMonth(998), "m2;", 0, 2, Check.LIMIT);
        plays(Make.atMonth(998), "m1;", 1);
        fault(Make.atMonth(998), "m1;m1;", 3, 2, Check.LIMIT);
        CupReceipts x = Make.bigLot();
        x.lot(10, 80);
        fault(x, "b18,9990,19,10;", 0, 2, Check.LIMIT);
        plays(x, "b18,9990,19,9;", 1);
    }

    // Promise 25: play

    /** "They are one change, also if there are none." */
    private static void promise25OneChangeAlsoIfThereAreNone() {
        CupReceipts x = new CupReceipts();
        Check.equal("play of none", x.play(), 0);
        Check.equal("states", x.count(10), 1);
        plays(x, times(20, "m1;", ""), 20);
        Check.equal("states", x.count(10), 2);
        Check.equal("undo", x.undo(), 1);
        Check.equal("month", x.count(2), 0);
        Check.equal("undo of none", x.undo(), 0);
        Check.equal("no more", x.undo(), Check.IMPOSSIBLE);
    }

    private static void promise25FiveChangesOfNone() {
        CupReceipts x = Make.lots(5, 80);
        for (int play = 1; play <= 5; play++) {
            Check.equal("play of none", x.play(), 0);
            Check.equal("states", x.count(10), Math.min(4, play + 1));
        }
        for (int left = 3; left >= 0; left--) {
            Check.equal("undo", x.undo(), left);
        }
        Check.equal("the lot cannot be undone any more", x.count(0), 1);
    }

    /** "the text, which stays" */
    private static void promise25TheTextStays() {
        CupReceipts x = new CupReceipts();
        plays(x, "l5,80;m1;", 2);
        Check.equal("length", x.count(11), 9);
        Check.equal("again", x.play(), 2);
        Check.equal("lots", x.count(0), 2);
        Check.equal("one more character", x.type('m'), 10);
        Check.equal("play", x.play(), Check.IMPOSSIBLE);
        Check.equal("length", x.count(11), 10);
    }

    /** "NOT_POSSIBLE if it has a fault" */
    private static void promise25NotPossibleWithAFault() {
        String[] texts = {"x", "m", "m1", "m0;", "c0;", "m1;x", "m1;m", "m1;m0;", "m1;c0;", "m1;;"};
        for (String text : texts) {
            CupReceipts x = new CupReceipts();
            Check.write(x, text);
            Check.equal("play " + text, x.play(), Check.IMPOSSIBLE);
            Check.equal("month after " + text, x.count(2), 0);
            Check.equal("states after " + text, x.count(10), 0);
            Check.equal("length after " + text, x.count(11), text.length());
        }
    }

    /** A text gets its fault by a change, and loses it by another. */
    private static void promise25FaultsComeAndGo() {
        CupReceipts x = new CupReceipts();
        Check.write(x, "c0;");
        Check.equal("no lot", x.play(), Check.IMPOSSIBLE);
        x.lot(2, 80);
        Check.equal("a lot of two bags", x.fault(1), NONE);
        Check.equal("play", x.play(), 1);
        Check.equal("a lot of one bag", x.fault(2), Check.IMPOSSIBLE);
        x.undo();
        Check.equal("two bags again", x.fault(2), NONE);
    }

    // The longest texts of orders: 60 characters

    private static void promise25TwentyPassings() {
        CupReceipts x = new CupReceipts();
        plays(x, times(20, "m1;", ""), 20);
        Check.equal("month", x.count(2), 20);
        plays(Make.atMonth(979), times(20, "m1;", ""), 20);
        fault(Make.atMonth(980), times(20, "m1;", ""), 57, 2, Check.LIMIT);
        fault(Make.atMonth(999), times(20, "m1;", ""), 0, 2, Check.LIMIT);
        CupReceipts y = Make.atMonth(639);
        plays(y, times(15, "m24;", ""), 15);
        Check.equal("month", y.count(2), 999);
        fault(Make.atMonth(640), times(15, "m24;", ""), 56, 2, Check.LIMIT);
    }

    private static void promise25TwentyCuppings() {
        CupReceipts x = Make.lots(21, 80);
        plays(x, times(20, "c0;", ""), 20);
        Check.equal("bags", x.lotOf(0, 0), 1);
        Check.equal("states", x.count(10), 2);
        CupReceipts y = Make.lots(20, 80);
        fault(y, times(20, "c0;", ""), 57, 2, Check.IMPOSSIBLE);
        Check.equal("bags stay", y.lotOf(0, 0), 20);
    }

    private static void promise25TenLots() {
        CupReceipts x = Make.lots(5, 80, 5, 80);
        plays(x, times(10, "l1,60;", ""), 10);
        Check.equal("lots", x.count(0), 12);
        Check.equal("the last", x.numberOf(11), 11);
        CupReceipts y = Make.lots(5, 80, 5, 80, 5, 80);
        fault(y, times(10, "l1,60;", ""), 54, 2, Check.LIMIT);
        Check.equal("lots", y.count(0), 3);
        Check.equal("made", y.count(9), 3);
    }

    private static void promise25SixContracts() {
        CupReceipts x = new CupReceipts();
        plays(x, times(6, "s2,5;", times(10, "m1;", "").substring(0, 30)), 16);
        Check.equal("failed", x.count(6), 6);
        Check.equal("month", x.count(2), 10);
        fault(new CupReceipts(), times(12, "s2,5;", ""), 30, 2, Check.LIMIT);
        plays(new CupReceipts(), times(6, "s2,5;", "m3;" + times(5, "s4,5;", "")), 12);
    }

    private static void promise25SixMeetings() {
        CupReceipts x = Make.oneBagContracts(7, 80);
        for (int contract = 0; contract < 6; contract++) {
            x.sell(0, 10 + contract);
        }
        plays(x, times(6, "d0;", ""), 6);
        Check.equal("account", x.count(4), 75);
        Check.equal("met", x.count(5), 6);
        fault(x, times(20, "d0;", ""), 0, 2, Check.INVALID);
        fault(Make.oneBagContracts(6, 80), times(7, "s0,9;d0;", "m1;"), 53, 2, Check.IMPOSSIBLE);
        plays(Make.oneBagContracts(7, 80), times(7, "s0,9;d0;", "m1;"), 15);
        fault(Make.oneBagContracts(8, 80), times(7, "s0,9;d0;", "c0;"), 56, 2, Check.IMPOSSIBLE);
        plays(Make.oneBagContracts(9, 80), times(7, "s0,9;d0;", "c0;"), 15);
    }

    private static void promise25LongestOrders() {
        CupReceipts x = Make.lots(5, 90, 5, 80);
        String text = times(2, LONGEST, times(3, "c0000;", ""));
        Check.equal("length", text.length(), 60);
        fault(x, text, 54, 2, Check.IMPOSSIBLE);
        CupReceipts y = Make.lots(6, 90, 5, 80);
        plays(y, text, 5);
        Check.equal("bags of one", y.lotOf(0, 0), 1);
        Check.equal("bags of the other", y.lotOf(1, 0), 3);
        Check.equal("bags of the blends", y.lotOf(2, 0) + y.lotOf(3, 0), 4);
        Check.equal("cups of the blends", y.lotOf(2, 1) + y.lotOf(3, 1), 170);
    }

    private static void promise25SixBlends() {
        CupReceipts x = Make.lots(6, 90, 6, 80);
        plays(x, times(6, "b0,1,1,1;", "l5,80;"), 7);
        Check.equal("both are used up", x.numberOf(0), 2);
        Check.equal("lots", x.count(0), 7);
        CupReceipts y = Make.lots(6, 90, 6, 80);
        fault(y, times(6, "b0,1,1,1;", "c0001;"), 54, 2, Check.INVALID);
    }

    /** "Returns how many there are in it" */
    private static void promise25HowManyThereAre() {
        for (int orders = 0; orders <= 20; orders++) {
            CupReceipts x = new CupReceipts();
            plays(x, times(orders, "m1;", ""), orders);
            Check.equal("month", x.count(2), orders);
            Check.equal("states", x.count(10), 1);
        }
    }
}
