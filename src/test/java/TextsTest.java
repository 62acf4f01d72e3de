/** Promises 22 to 25. */
public final class TextsTest {
    private static final int NONE = Check.MISSING;

    private TextsTest() {
    }

    public static void main(String[] args) {
        promise22Type();
        promise23ClearText();
        promise24Forms();
        promise24NumbersOfFourDigits();
        promise24FaultsOfCalls();
        promise24FirstOfSeveralFaults();
        promise24Errors();
        promise25Play();
        promise25PlayEveryKind();
        promise25PlayIsOneChange();
        promise25PlayWithAFault();
        promise25PlayAFullText();
        Check.end("TextsTest");
    }

    private static void promise22Type() {
        CupReceipts x = new CupReceipts();
        int[] wrong = {31, 127, -1, 0, Integer.MIN_VALUE, Integer.MAX_VALUE, 59 + 65536};
        for (int character : wrong) {
            Check.equal("type " + character, x.type(character), Check.INVALID);
        }
        Check.equal("length", x.count(11), 0);
        for (int length = 1; length <= 60; length++) {
            Check.equal("type", x.type(length % 2 == 0 ? 32 : 126), length);
        }
        Check.equal("61st", x.type(50), Check.LIMIT);
        Check.equal("61st, and wrong", x.type(31), Check.INVALID);
        Check.equal("length", x.count(11), 60);
        Check.equal("not a change", x.count(10), 0);
    }

    private static void promise23ClearText() {
        CupReceipts x = new CupReceipts();
        Check.equal("empty", x.clearText(), 0);
        Check.write(x, "l5,80;");
        Check.equal("clear", x.clearText(), 6);
        Check.equal("empty", x.count(11), 0);
        Check.equal("no fault", x.fault(0), NONE);
        Check.equal("anew", x.type('x'), 1);
        Check.equal("a fault", x.fault(1), 1);
        Check.equal("clear", x.clearText(), 1);
        Check.equal("not a change", x.count(10), 0);
        for (int length = 1; length <= 60; length++) {
            x.type('l');
        }
        Check.equal("clear", x.clearText(), 60);
        Check.equal("type", x.type('l'), 1);
    }

    /** Texts whose fault is one of the form, with the offset at which the order breaks off. */
    private static void promise24Forms() {
        String[] texts = {"x", " ", ";", "5", "L5,80;", "l", "l;", "l,", "l5", "l5;", "l5,", "l5,;", "l5,80", "l5,80,",
            "l5 ,80;", "l12345,80;", "l5,12345;", "l-5,80;", "b", "b0", "b0,1", "b0,1;", "b0,1,1", "b0,1,1;", "b0,1,1,",
            "b0,1,1,1", "b0,1,1,1,", "b0,1,1,12345;", "c", "c,", "c0", "c0,", "c00000;", "s", "s2", "s2;", "s2,5",
            "s2,5,", "d", "d0", "dd", "d0d", "m", "m1", "m1,1;", "m1:", "p0;", "a", "k1;", "m/", "m1m1;"};
        int[] offsets = {0, 0, 0, 0, 0, 1, 1, 1, 2, 2, 3, 3, 5, 5,
            2, 5, 7, 1, 1, 2, 4, 4, 6, 6, 7,
            8, 8, 11, 1, 1, 2, 2, 5, 1, 2, 2, 4,
            4, 1, 2, 1, 2, 1, 2, 2, 2, 0, 0, 0, 1, 2};
        Check.equal("texts", texts.length, offsets.length);
        for (int i = 0; i < texts.length; i++) {
            CupReceipts x = new CupReceipts();
            fault(x, texts[i], 0, 1, offsets[i]);
            fault(x, "l5,80;m1;" + texts[i], 9, 1, offsets[i]);
            Check.equal("play", x.play(), Check.IMPOSSIBLE);
        }
    }

    private static void promise24NumbersOfFourDigits() {
        CupReceipts x = new CupReceipts();
        noFault(x, "l0005,0080;");
        noFault(x, "m0001;m024;");
        noFault(x, "l5,80;c0000;");
        fault(x, "l1000,80;", 0, 2, Check.INVALID);
        fault(x, "l9999,9999;", 0, 2, Check.INVALID);
        fault(x, "m00001;", 0, 1, 5);
        x.lot(5, 80);
        noFault(x, "b0000,0001,0001,0001;".replace("b", "l1,80;b"));
    }

    private static void promise24FaultsOfCalls() {
        CupReceipts x = new CupReceipts();
        x.lot(10, 80);
        x.lot(1, 90);
        fault(x, "l0,80;", 0, 2, Check.INVALID);
        fault(x, "l5,59;", 0, 2, Check.INVALID);
        fault(x, "b0,1,0,1;", 0, 2, Check.INVALID);
        fault(x, "b0,11,1,1;", 0, 2, Check.IMPOSSIBLE);
        fault(x, "b0,1,2,1;", 0, 2, Check.INVALID);
        noFault(x, "l1,80;b0,1,2,1;");
        fault(x, "c2;", 0, 2, Check.INVALID);
        fault(x, "c1;", 0, 2, Check.IMPOSSIBLE);
        fault(x, "s3,5;", 0, 2, Check.IMPOSSIBLE);
        fault(x, "s1000,5;", 0, 2, Check.INVALID);
        fault(x, "s2,1000;", 0, 2, Check.INVALID);
        fault(x, "d0;", 0, 2, Check.INVALID);
        fault(x, "s2,5;d0;", 5, 2, Check.IMPOSSIBLE);
        fault(x, "s2,5;m2;d0;", 8, 2, Check.IMPOSSIBLE);
        fault(x, "m0;", 0, 2, Check.INVALID);
        fault(x, "m25;", 0, 2, Check.INVALID);
        fault(x, "s2,5;s2,5;s2,5;s2,5;s2,5;s2,5;s2,5;", 30, 2, Check.LIMIT);
        fault(x, "s2,5;s2,5;s2,5;s2,5;s2,5;s2,5;m3;s2,5;", 33, 2, Check.IMPOSSIBLE);
        fault(x, "l1,70;l1,70;l1,70;b0,1,1,1;c0;d0;", 30, 2, Check.INVALID);
        Check.equal("not a change", x.count(10), 2);
        Check.equal("nothing is done", x.count(9), 2);
    }

    private static void promise24FirstOfSeveralFaults() {
        CupReceipts x = new CupReceipts();
        fault(x, "d0;x", 0, 2, Check.INVALID);
        fault(x, "xd0;", 0, 1, 0);
        fault(x, "l5,80;d0;c5", 6, 2, Check.INVALID);
        fault(x, "l5,80;d0", 6, 1, 2);
        // c takes a bag each time, so that it is the third that fails
        fault(x, "l3,80;c0;c0;c0;c0;", 12, 2, Check.IMPOSSIBLE);
        x.pass(24);
        for (int turn = 0; turn < 40; turn++) {
            x.pass(24);
        }
        fault(x, "m15;m1;", 4, 2, Check.LIMIT);
        noFault(x, "m15;");
    }

    private static void promise24Errors() {
        CupReceipts x = new CupReceipts();
        int[] wrong = {-1, 3, Integer.MIN_VALUE, Integer.MAX_VALUE};
        for (int what : wrong) {
            Check.equal("fault " + what, x.fault(what), Check.INVALID);
        }
        Check.write(x, "x");
        for (int what : wrong) {
            Check.equal("fault " + what, x.fault(what), Check.INVALID);
        }
    }

    private static void promise25Play() {
        CupReceipts x = new CupReceipts();
        Check.write(x, "l7,90;m4;c0;");
        Check.equal("play", x.play(), 3);
        Check.equal("month", x.count(2), 4);
        Check.equal("bags", x.lotOf(0, 0), 6);
        Check.equal("cup", x.lotOf(0, 1), 89);
        Check.equal("the text stays", x.count(11), 12);
        Check.equal("again", x.play(), 3);
        Check.equal("month", x.count(2), 8);
        Check.equal("it is lot 0 again that is cupped", x.lotOf(0, 0), 5);
        Check.equal("cup", x.lotOf(0, 1), 88);
        Check.equal("lots", x.count(9), 2);
        Check.equal("states", x.count(10), 2);
    }

    private static void promise25PlayEveryKind() {
        CupReceipts x = new CupReceipts();
        x.set(0, 8);
        x.worth(2, 3);
        // lot 2: 5 bags of (184 + 243) / 5 = 85; for a bag 85 gains 114 - 3, 81 gains 102 - 3, 92 gains 135 - 300
        Check.write(x, "l7,92;l9,81;b0,2,1,3;s2,99;m2;d0;c1;");
        Check.equal("no fault", x.fault(0), NONE);
        Check.equal("play", x.play(), 7);
        Check.equal("account", x.count(4), 5 * 114 + 3 * 102);
        Check.equal("lots", x.count(9), 3);
        Check.equal("the blend is used up", x.lotOf(2, 0), Check.INVALID);
        Check.equal("month", x.count(2), 2);
        Check.equal("met", x.count(5), 1);
        Check.equal("three given and one cupped", x.lotOf(1, 0), 2);
        Check.equal("cupped anew", x.lotOf(1, 2), 2);
        Check.equal("not given", x.lotOf(0, 0), 5);
        Check.equal("a second time lot 1 has not three bags", x.fault(0), 12);
        Check.equal("its cause", x.fault(2), Check.IMPOSSIBLE);
    }

    private static void promise25PlayIsOneChange() {
        CupReceipts x = new CupReceipts();
        Check.equal("no orders", x.play(), 0);
        Check.equal("is a change", x.count(10), 1);
        Check.write(x, "l5,80;l5,80;l5,80;l5,80;l5,80;l5,80;");
        Check.equal("play", x.play(), 6);
        Check.equal("states", x.count(10), 2);
        Check.equal("lots", x.count(0), 6);
        Check.equal("undo", x.undo(), 1);
        Check.equal("lots", x.count(0), 0);
        Check.equal("the text stays", x.count(11), 36);
        Check.equal("play", x.play(), 6);
        Check.equal("play", x.play(), 6);
        Check.equal("a 13th lot", x.play(), Check.IMPOSSIBLE);
        Check.equal("undo", x.undo(), 2);
        Check.equal("undo", x.undo(), 1);
        Check.equal("undo", x.undo(), 0);
        Check.equal("undo", x.undo(), Check.IMPOSSIBLE);
    }

    private static void promise25PlayWithAFault() {
        CupReceipts x = new CupReceipts();
        Check.write(x, "l5,80;x");
        Check.equal("form", x.play(), Check.IMPOSSIBLE);
        Check.equal("nothing is done", x.count(9), 0);
        Check.equal("no change", x.count(10), 0);
        Check.write(x, "l5,80;d0;");
        Check.equal("call", x.play(), Check.IMPOSSIBLE);
        Check.equal("nothing is done", x.count(9), 0);
        Check.equal("no change", x.count(10), 0);
        Check.equal("the text stays", x.count(11), 9);
        Check.write(x, "l5,80;s2,5");
        Check.equal("too short", x.play(), Check.IMPOSSIBLE);
        Check.equal("type", x.type(';'), 11);
        Check.equal("play", x.play(), 2);
    }

    private static void promise25PlayAFullText() {
        CupReceipts x = new CupReceipts();
        Check.write(x, "m1;m1;m1;m1;m1;m1;m1;m1;m1;m1;m1;m1;m1;m1;m1;m1;m1;m1;m1;m1;");
        Check.equal("length", x.count(11), 60);
        Check.equal("no fault", x.fault(1), NONE);
        Check.equal("play", x.play(), 20);
        Check.equal("month", x.count(2), 20);
        Check.write(x, "m1;m1;m1;m1;m1;m1;m1;m1;m1;m1;m1;m1;m1;m1;m1;m1;m1;m1;m1;m24");
        fault(x, "m1;m1;m1;m1;m1;m1;m1;m1;m1;m1;m1;m1;m1;m1;m1;m1;m1;m1;m1;m24", 57, 1, 3);
        x.set(0, 1);
        x.lot(9, 80);
        x.set(1, 4095);
        Check.write(x, "s20,90;d0;s20,90;d0;s20,90;d0;s20,90;d0;m1;c0;");
        Check.equal("play", x.play(), 10);
        Check.equal("account", x.count(4), 360);
        Check.equal("bags", x.lotOf(0, 0), 4);
    }

    private static void fault(CupReceipts x, String text, int position, int reason, int cause) {
        Check.write(x, text);
        Check.equal("position of the fault of " + text, x.fault(0), position);
        Check.equal("reason of the fault of " + text, x.fault(1), reason);
        Check.equal("cause of the fault of " + text, x.fault(2), cause);
    }

    private static void noFault(CupReceipts x, String text) {
        Check.write(x, text);
        for (int what = 0; what < 3; what++) {
            Check.equal("fault of " + text, x.fault(what), NONE);
        }
    }
}
