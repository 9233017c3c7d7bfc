/** Promises 9 to 17, 31, 32 and 37: hours and the other acts, what is seen of them, images. */
public final class ActsTest {
    private static final int BAD = MillTalk.BAD, STATE = MillTalk.STATE, NONE = MillTalk.NONE;
    private static final Check check = new Check();

    public static void main(String[] args) {
        noLevel();
        drifts();
        lost();
        grinding();
        mealHasAnEnd();
        hoursHaveAnEnd();
        windsByHours();
        caps();
        windsChanged();
        letLoose();
        sold();
        undone();
        images();
        badNumbers();
        check.end();
    }

    private static void noLevel() {
        MillTalk x = new MillTalk();
        check.due("hours 0", x.hours(0), STATE);
        check.due("cap", x.cap(), STATE);
        check.due("wind", x.wind(0, 0), BAD);
        check.due("loose", x.loose(0, 0, 1), BAD);
        check.due("sell 0", x.sell(0), STATE);
        check.due("undo", x.undo(), STATE);
        check.due("stand 9", x.stand(9), STATE);
        check.due("gust 99", x.gust(99), STATE);
        check.due("sound", x.sound(0, 0), BAD);
        check.due("image", x.image(0), STATE);
        check.due("image 2", x.image(2), BAD);
        check.due("restore", x.restore(1), STATE);
        check.due("restore -1", x.restore(-1), BAD);
    }

    /** Where voice, band, hare, Dutch and sea are behind an hour from cell 6, 3 loud. */
    private static void drift(int wind, int voice, int band, int hare, int dutch) {
        MillTalk x = Check.told("m15,14,0;w" + wind + ";v6,3;b6,3;h6,3;d6,3;s6,3;");
        int[] cells = {voice, band, hare, dutch, 6};
        int[] louds = {3, 3, 3, 2, 4};
        for (int s = 0; s < 5; s++) {
            check.due("would drift " + wind + " " + s, x.sound(s, 3), cells[s] - 6);
        }
        check.due("hour", x.hours(1), 0);
        for (int s = 0; s < 5; s++) {
            check.due("cell " + wind + " " + s, x.sound(s, 0), cells[s]);
            check.due("how " + wind + " " + s, x.sound(s, 1), 0);
            check.due("loud " + wind + " " + s, x.sound(s, 2), louds[s]);
        }
        check.due("hour", x.count(3), 1);
    }

    private static void drifts() {
        drift(0, 4, 5, 2, 8);
        drift(1, 5, 6, 4, 7);
        drift(2, 6, 6, 6, 6);
        drift(3, 7, 6, 8, 5);
        drift(4, 8, 7, 10, 4);
    }

    private static void lost() {
        MillTalk x = Check.told("m9,0,0;w4;v7,3;h4,3;h5,4;d1,9;d5,1;s8,20;");
        check.due("an hour", x.hours(1), 0);
        check.due("lost", x.stand(6), 1 + 4 + 8 + 16);
        check.due("in the last cell", x.sound(1, 0), 8);
        check.due("no cell", x.sound(0, 0), NONE);
        check.due("how", x.sound(0, 1), 2);
        check.due("kept cell", x.ask(0, 1), 7);
        check.due("loud as it was", x.sound(3, 2), 9);
        check.due("Dutch with 1", x.sound(4, 1), 2);
        check.due("Dutch keeps 1", x.sound(4, 2), 1);
        check.due("20 at most", x.sound(5, 2), 20);
        check.due("drifts of one that is lost", x.sound(0, 3), 2);
        check.due("loose", x.count(5), 2);
        x.hours(3);
        check.due("lost for good", x.ask(0, 1), 7);
    }

    private static void grinding() {
        MillTalk x = Check.told("m15,6,2;w3;v4,1;v5,2;v6,3;v7,4;v8,5;v3,6;");
        check.due("cap up", x.hours(1), 2 + 3 + 4);
        check.due("ground", x.stand(5), 2 + 4 + 8);
        check.due("no cell", x.sound(1, 0), NONE);
        check.due("how", x.sound(1, 1), 1);
        check.due("loud", x.sound(1, 2), 2);
        check.due("where it was ground", x.ask(1, 1), 1 + 6);
        x.undo();
        x.cap();
        check.due("cap down", x.hours(1), 1 + 2 + 6);
        check.due("ground", x.stand(5), 1 + 2 + 32);
        MillTalk y = Check.told("m15,6,4;w2;v6,1;s7,2;d8,3;");
        check.due("no grinding in a calm", y.hours(1), 0);
        check.due("louder in it", y.sound(1, 2), 3);
        check.due("and less loud", y.sound(2, 2), 2);
        y.wind(0, 1);
        check.due("then it grinds: sea 4, Dutch 1", y.hours(1), 5);
        check.due("the voice went below", y.sound(0, 0), 5);
    }

    private static void mealHasAnEnd() {
        MillTalk x = Check.told("m5,0,4;w3;s0,20;s1,20;s2,20;s3,20;s4,20;s0,20;");
        for (int i = 1; i < 9; i++) {
            check.due("meal", x.hours(1), 120 * i);
            for (int s = 0; s < 6; s++) {
                x.loose(s, s % 5, 20);
            }
        }
        check.due("foretold", x.meal(1), 999);
        check.due("999 at most", x.hours(1), 999);
        x.loose(0, 0, 20);
        check.due("and stays", x.hours(1), 999);
        check.due("sold", x.sell(999), 0);
    }

    private static void hoursHaveAnEnd() {
        MillTalk x = Check.told("m5,0,0;w2;w3;s4,1;");
        for (int i = 0; i < 41; i++) {
            x.hours(24);
        }
        check.due("hour", x.count(3), 984);
        check.due("16 more", x.hours(16), MillTalk.FULL);
        check.due("bad ahead of full", x.hours(25), BAD);
        check.due("15 more", x.hours(15), 0);
        check.due("hour", x.count(3), 999);
        check.due("full", x.hours(1), MillTalk.FULL);
        check.due("foretold beyond", x.ahead(0, 60, 0), 4);
        check.due("gust beyond", x.gust(60), 3);
    }

    private static void windsByHours() {
        MillTalk x = Check.told("m15,14,0;w3;w0;w4;v5,1;");
        int[] gusts = {3, 0, 4, 3, 0};
        for (int n = 0; n < gusts.length; n++) {
            check.due("gust " + n, x.gust(n), gusts[n]);
        }
        int[] cells = {6, 4, 6, 7, 5};
        for (int n = 0; n < cells.length; n++) {
            x.hours(1);
            check.due("cell " + n, x.sound(0, 0), cells[n]);
        }
        check.due("gust by the hour", x.gust(0), 4);
        check.due("gust 60", x.gust(60), 4);
        check.due("gust -1", x.gust(-1), BAD);
        check.due("gust 61", x.gust(61), BAD);
    }

    private static void caps() {
        MillTalk x = Check.told("m5,0,0;w2;s4,1;");
        check.due("down", x.cap(), 0);
        check.due("stands so", x.stand(3), 0);
        check.due("up", x.cap(), 1);
        check.due("acts", x.count(6), 2);
    }

    private static void windsChanged() {
        MillTalk x = Check.told("m5,0,0;w2;w3;s4,1;");
        check.due("was", x.wind(1, 0), 3);
        check.due("is", x.gust(1), 0);
        check.due("was", x.wind(1, 4), 0);
        check.due("to the same", x.wind(1, 4), 4);
        check.due("each an act", x.count(6), 3);
        check.due("wind 2", x.wind(2, 0), BAD);
        check.due("wind -1", x.wind(-1, 0), BAD);
        check.due("to 5", x.wind(0, 5), BAD);
        check.due("to -1", x.wind(0, -1), BAD);
    }

    private static void letLoose() {
        MillTalk x = Check.told("m5,0,1;w3;v0,5;v4,6;s4,7;");
        x.hours(1);
        check.due("loose is one", x.stand(4), 4);
        check.due("it is loose", x.loose(2, 0, 1), STATE);
        check.due("ground, let loose", x.loose(0, 2, 9), 5);
        check.due("lost, let loose", x.loose(1, 4, 20), 7);
        check.due("cell", x.sound(0, 0), 2);
        check.due("loud", x.sound(0, 2), 9);
        check.due("meal stays", x.count(4), 5);
        check.due("sound 3", x.loose(3, 0, 1), BAD);
        check.due("cell 5", x.loose(0, 5, 1), BAD);
        check.due("cell -1", x.loose(0, -1, 1), BAD);
        check.due("loud 0, bad ahead of state", x.loose(0, 0, 0), BAD);
        check.due("loud 21", x.loose(0, 0, 21), BAD);
    }

    private static void sold() {
        MillTalk x = Check.told("m5,0,1;w3;v0,5;");
        check.due("nothing yet", x.sell(1), STATE);
        x.hours(1);
        check.due("too much", x.sell(6), STATE);
        check.due("some", x.sell(2), 3);
        check.due("all", x.sell(3), 0);
        check.due("sell 0", x.sell(0), BAD);
        check.due("sell 1000", x.sell(1000), BAD);
    }

    private static void undone() {
        MillTalk x = Check.told("m9,2,1;w3;w4;v2,5;d5,4;s2,1;v8,9;");
        x.hours(1);
        x.wind(0, 0);
        x.cap();
        x.loose(0, 1, 7);
        x.sell(6);
        check.due("acts", x.count(6), 5);
        check.due("sold undone", x.undo(), 4);
        check.due("meal", x.count(4), 7);
        check.due("loose undone", x.undo(), 3);
        check.due("ground again", x.sound(0, 1), 1);
        check.due("5 loud again", x.sound(0, 2), 5);
        check.due("cap undone", x.undo(), 2);
        check.due("up", x.stand(3), 1);
        check.due("wind undone", x.undo(), 1);
        check.due("3 again", x.gust(1), 3);
        check.due("hour undone", x.undo(), 0);
        check.due("hour", x.count(3), 0);
        check.due("meal", x.count(4), 0);
        check.due("loose", x.stand(4), 15);
        check.due("cell", x.sound(3, 0), 8);
        check.due("loud", x.sound(1, 2), 4);
        check.due("none", x.undo(), STATE);
        x.hours(20);
        x.hours(20);
        check.due("24 at most", x.count(6), 24);
        for (int left = 23; left >= 0; left--) {
            check.due("undo", x.undo(), left);
        }
        check.due("the older ones are forgotten", x.undo(), STATE);
        check.due("hour 16", x.count(3), 16);
    }

    private static void images() {
        MillTalk x = Check.told("m9,2,1;w3;w4;v2,5;d5,4;s2,1;v8,9;");
        x.hours(1);
        check.due("image 0", x.image(0), 1);
        check.due("no act", x.count(6), 1);
        x.wind(0, 0);
        x.cap();
        x.hours(2);
        check.due("image 1", x.image(1), 1);
        Check.tell(x, "m5,0,0;w2;s0,1;");
        x.cap();
        check.due("restore 0", x.restore(0), 1);
        check.due("cells", x.stand(0), 9);
        check.due("cap", x.stand(3), 1);
        check.due("hour", x.count(3), 1);
        check.due("winds", x.count(2), 2);
        check.due("wind", x.gust(1), 3);
        check.due("sounds", x.count(1), 4);
        check.due("meal", x.count(4), 7);
        check.due("no act", x.undo(), STATE);
        x.hours(1);
        check.due("the image stays as it was", x.restore(0), 1);
        check.due("hour", x.count(3), 1);
        check.due("restore 1", x.restore(1), 1);
        check.due("hour", x.count(3), 3);
        check.due("cap", x.stand(3), 0);
        check.due("image 2", x.image(2), BAD);
        check.due("image -1", x.image(-1), BAD);
        check.due("restore 2", x.restore(2), BAD);
    }

    private static void badNumbers() {
        MillTalk x = Check.told("m5,0,0;w2;s4,1;");
        check.due("hours 0", x.hours(0), BAD);
        check.due("hours 25", x.hours(25), BAD);
        check.due("hours least", x.hours(Integer.MIN_VALUE), BAD);
        check.due("sound 1", x.sound(1, 0), BAD);
        check.due("sound -1", x.sound(-1, 0), BAD);
        check.due("sound what 4", x.sound(0, 4), BAD);
        check.due("sound what -1", x.sound(0, -1), BAD);
        check.due("stand 7", x.stand(7), BAD);
        check.due("stand -1", x.stand(-1), BAD);
        check.due("count 8", x.count(8), BAD);
        check.due("count -1", x.count(-1), BAD);
        check.due("nothing was done", x.count(6), 0);
    }
}
