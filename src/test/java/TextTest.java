/** Promises 6 to 8: the tape, what is read from it, and its faults. */
public final class TextTest {
    private static final String LAW = "m11,5,2;", WINDS = "w3;w4;w1;", SOUNDS = "v2,6;d8,4;";
    private static final Check check = new Check();

    public static void main(String[] args) {
        tape();
        goodTexts();
        faults();
        roomFor6();
        aFaultLeavesAll();
        aLevelStandsAnew();
        check.end();
    }

    private static void tape() {
        MillTalk x = new MillTalk();
        check.due("byte -1", x.feed(-1), MillTalk.BAD);
        check.due("byte 256", x.feed(256), MillTalk.BAD);
        check.due("byte 0", x.feed(0), 1);
        check.due("byte 255", x.feed(255), 2);
        for (int i = 2; i < 120; i++) {
            check.due("byte " + i, x.feed('m'), i + 1);
        }
        check.due("one more", x.feed('m'), MillTalk.FULL);
        check.due("bad ahead of full", x.feed(256), MillTalk.BAD);
        check.due("bytes", x.count(7), 120);
        check.due("read", x.level(), -1000100);
        check.due("empty then", x.count(7), 0);
        check.due("from the first on", x.feed('m'), 1);
    }

    private static void goodTexts() {
        MillTalk x = Check.told(LAW + WINDS + SOUNDS);
        int[] stands = {11, 5, 2, 1, 3, 0, 0};
        for (int what = 0; what < stands.length; what++) {
            check.due("stand " + what, x.stand(what), stands[what]);
        }
        check.due("winds", x.count(2), 3);
        check.due("wind 2", x.gust(2), 1);
        check.due("voice", x.kind(0), 1);
        check.due("dutch", x.kind(1), 4);
        check.due("cell", x.sound(1, 0), 8);
        check.due("loud", x.sound(1, 2), 4);
        check.due("two figures", Check.tell(x, "m05,04,00;w04;w02;s00,01;h04,20;"), 2);
        check.due("least", Check.tell(x, "m5,0,0;w0;v0,1;"), 1);
        check.due("most", Check.tell(x, "m15,14,4;w4;v14,20;"), 1);
        check.due("no fault was there", x.fault(), 0);
    }

    private static void fault(String text, int place, int number) {
        MillTalk x = new MillTalk();
        check.due("level " + text, Check.tell(x, text), -1000100 - place);
        check.due("fault " + text, x.fault(), number);
    }

    private static void faults() {
        fault("", 0, 1);
        fault("m", 1, 1);
        fault("x", 0, 1);
        fault("M11,5,2;", 0, 1);
        fault(" m11,5,2;", 0, 1);
        fault("m ", 1, 1);
        fault("m,", 1, 1);
        fault("m4,", 1, 2);
        fault("m16,", 1, 2);
        fault("m99", 1, 2);
        fault("m005,0,0;", 1, 1);
        fault("m1111,0,0;", 1, 1);
        fault("m5;", 2, 1);
        fault("m5,5,0;", 3, 2);
        fault("m11,11,0;", 4, 2);
        fault("m5,0,5;", 5, 2);
        fault("m5,0,0,", 6, 1);
        fault("m5,0,0", 6, 1);
        fault("m5,0 0", 4, 1);
        fault("m5,0,0;", 7, 1);
        fault("m5,0,0;v0,1;", 7, 1);
        fault("m5,0,0;w5;", 8, 2);
        fault("m5,0,0;w;", 8, 1);
        fault("m5,0,0;w0,", 9, 1);
        fault("m5,0,0;w0;", 10, 1);
        fault("m5,0,0;w0;m", 10, 1);
        fault("m5,0,0;w0;x", 10, 1);
        fault("m5,0,0;w0;v5,1;", 11, 2);
        fault("m5,0,0;w0;v0,0;", 13, 2);
        fault("m5,0,0;w0;v0,21;", 13, 2);
        fault("m5,0,0;w0;v0,100;", 13, 1);
        fault("m5,0,0;w0;v0,1", 14, 1);
        fault("m5,0,0;w0;v0;", 12, 1);
        fault("m5,0,0;w0;vv", 11, 1);
        fault("m5,0,0;w0;v0,1;w0;", 15, 1);
        fault("m5,0,0;w0;v0,1;;", 15, 1);
        fault("m5,0,0;w0;v0,1;v", 16, 1);
        fault("m5,0,0;w0;v0,1;\n", 15, 1);
        fault("m5,9,9;w9;v0,0;", 3, 2);
    }

    private static void roomFor6() {
        String winds = "w0;w1;w2;w3;w4;w0;";
        String sounds = "v0,1;b1,2;h2,3;d3,4;s4,5;v0,6;";
        MillTalk x = new MillTalk();
        check.due("6 and 6", Check.tell(x, "m5,0,0;" + winds + sounds), 6);
        check.due("6 winds", x.count(2), 6);
        fault("m5,0,0;" + winds + "w", 25, 3);
        fault("m5,0,0;" + winds + "w9;", 25, 3);
        fault("m5,0,0;" + winds + sounds + "s", 55, 3);
        fault("m5,0,0;" + winds + sounds + "w", 55, 1);
        fault("m5,0,0;" + winds + sounds + "0", 55, 1);
    }

    private static void aFaultLeavesAll() {
        MillTalk x = Check.told(LAW + WINDS + SOUNDS);
        x.hours(2);
        x.image(1);
        check.due("fault", Check.tell(x, "m9,1,1;w0;v1,1;v"), -1000116);
        check.due("cells stay", x.stand(0), 11);
        check.due("hour stays", x.count(3), 2);
        check.due("acts stay", x.count(6), 2);
        check.due("the tape is empty", x.count(7), 0);
        check.due("number", x.fault(), 1);
        Check.tell(x, "m3,");
        check.due("latest", x.fault(), 2);
        check.due("good again", Check.tell(x, LAW + WINDS + SOUNDS), 2);
        check.due("the latest fault stays told", x.fault(), 2);
    }

    private static void aLevelStandsAnew() {
        MillTalk x = Check.told("m5,2,2;w3;v1,9;v4,1;");
        x.cap();
        check.due("cap down: cell 2 is ground, 4 is lost", x.hours(1), 9);
        check.due("again", Check.tell(x, "m5,2,2;w3;v1,9;v4,1;"), 2);
        check.due("hour", x.count(3), 0);
        check.due("meal", x.count(4), 0);
        check.due("loose", x.count(5), 2);
        check.due("acts", x.count(6), 0);
        check.due("undo", x.undo(), MillTalk.STATE);
        check.due("cap", x.stand(3), 1);
        check.due("ground", x.stand(5), 0);
        check.due("lost", x.stand(6), 0);
    }
}
