/** Promises 9 to 17, 31, 32 and 37: acts, what is seen of them, images; a test for each sentence. */
public final class ActsTest {
    private static final int BAD = MillTalk.BAD, STATE = MillTalk.STATE, FULL = MillTalk.FULL, NONE = MillTalk.NONE;
    private static final int FAR_UP = Integer.MAX_VALUE, FAR_DOWN = Integer.MIN_VALUE;
    private static final Check check = new Check();

    public static void main(String[] args) {
        eachActIsUndone();
        nothingToUndo();
        twentyFourActsAreKept();
        manyHoursAreManyActs();
        whatIsRefusedIsNoAct();
        whatIsSeenIsNoAct();
        hoursAre1To24();
        hoursNeedALevel();
        hoursEndAt999();
        badHoursAheadOfFull();
        mealBehindHours();
        theCapIsTurned();
        aWindBecomesAnother();
        windsThatThereAreNot();
        aWindIs0To4();
        soundsAreLetLoose();
        oneThatIsLoose();
        noSuchSoundCellOrLoud();
        badAheadOfItIsLoose();
        mealIsSold();
        soldIs1To999();
        notSoMuchMeal();
        whatIsSeenOfASound();
        driftOfThisHour();
        noSuchSoundOrQuestion();
        whatStands();
        noSuchStand();
        gustsToCome();
        gustsAre0To60();
        imagesAreKept();
        imagesOfTwo();
        imagesNeedALevel();
        restoredAsItWas();
        noImageWasKept();
        restoredNothingCanBeUndone();
        restoredTheRestStays();
        counts();
        noSuchCount();
        the512thCall();
        check.end();
    }

    private static MillTalk level() {
        return Check.told("m9,2,1;w3;w4;v2,5;d5,4;s2,1;v8,9;");
    }

    /** "ACTS (.. each can be undone, the latest first)", "The latest ACT is undone: how many can be undone yet." */
    private static void eachActIsUndone() {
        MillTalk x = level();
        check.due("hour", x.hours(1), 7);
        x.wind(0, 0);
        x.cap();
        x.loose(0, 1, 7);
        x.sell(6);
        check.due("acts", x.count(6), 5);
        check.due("sold undone", x.undo(), 4);
        check.due("meal", x.count(4), 7);
        check.due("loose undone", x.undo(), 3);
        check.due("ground again", x.sound(0, 1), 1);
        check.due("5 loud again", x.sound(0, 2), 5);
        check.due("where it was ground", x.ask(0, 1), 3);
        check.due("cap undone", x.undo(), 2);
        check.due("up", x.stand(3), 1);
        check.due("wind undone", x.undo(), 1);
        check.due("3 again", x.gust(1), 3);
        check.due("hour undone", x.undo(), 0);
        check.due("hour", x.count(3), 0);
        check.due("meal", x.count(4), 0);
        check.due("loose", x.stand(4), 15);
        check.due("cell", x.sound(3, 0), 8);
        check.due("loud", x.sound(1, 2), 4);
        check.due("the sea's loud", x.sound(2, 2), 1);
    }

    /** "STATE: none." */
    private static void nothingToUndo() {
        MillTalk x = new MillTalk();
        check.due("no level", x.undo(), STATE);
        Check.tell(x, "m5,0,0;w2;s4,1;");
        check.due("no act", x.undo(), STATE);
        x.cap();
        check.due("one", x.undo(), 0);
        check.due("no more", x.undo(), STATE);
        check.due("the cap is up", x.stand(3), 1);
    }

    /** "(24 at most are kept, of more the oldest is forgotten ..)" */
    private static void twentyFourActsAreKept() {
        MillTalk x = Check.told("m5,0,0;w2;s4,1;");
        for (int i = 1; i <= 30; i++) {
            x.wind(0, i % 5);
            check.due("acts", x.count(6), Math.min(i, 24));
        }
        for (int left = 23; left >= 0; left--) {
            check.due("undo", x.undo(), left);
            check.due("wind", x.gust(0), (left + 6) % 5);
        }
        check.due("the older ones are forgotten", x.undo(), STATE);
        check.due("as it was behind the sixth", x.gust(0), 6 % 5);
        x.cap();
        check.due("acts go on", x.count(6), 1);
        check.due("undone", x.undo(), 0);
    }

    /** "n HOURS .., an ACT each" */
    private static void manyHoursAreManyActs() {
        MillTalk x = level();
        x.hours(3);
        check.due("three", x.count(6), 3);
        check.due("one undone", x.undo(), 2);
        check.due("hour", x.count(3), 2);
        x.hours(24);
        check.due("24 at most", x.count(6), 24);
        for (int left = 23; left >= 0; left--) {
            check.due("undo", x.undo(), left);
        }
        check.due("hour", x.count(3), 2);
        check.due("the older ones are forgotten", x.undo(), STATE);
        x.hours(20);
        x.hours(20);
        check.due("24 of 40", x.count(6), 24);
    }

    /** "What is refused .. changes nothing" */
    private static void whatIsRefusedIsNoAct() {
        MillTalk x = level();
        x.hours(0);
        x.hours(25);
        x.wind(0, 5);
        x.wind(2, 0);
        x.loose(0, 0, 1);
        x.loose(0, 9, 1);
        x.sell(1);
        x.sell(0);
        x.undo();
        check.due("no act", x.count(6), 0);
        check.due("no hour", x.count(3), 0);
    }

    /** ACTS are those five, no others. */
    private static void whatIsSeenIsNoAct() {
        MillTalk x = level();
        x.sound(0, 0);
        x.stand(0);
        x.gust(9);
        x.meal(9);
        x.image(0);
        x.feed('m');
        x.row(0, 0, 1);
        x.ask(0, 0);
        x.count(6);
        check.due("no act", x.count(6), 0);
    }

    /** "n HOURS (1 to 24)", "BAD" */
    private static void hoursAre1To24() {
        MillTalk x = Check.told("m5,0,0;w2;s4,1;");
        check.due("1", x.hours(1), 0);
        check.due("24", x.hours(24), 0);
        check.due("hour", x.count(3), 25);
        for (int n : new int[] {0, -1, 25, FAR_UP, FAR_DOWN}) {
            check.due("hours " + n, x.hours(n), BAD);
        }
        check.due("hour", x.count(3), 25);
    }

    /** "STATE: no LEVEL (ahead of BAD)" */
    private static void hoursNeedALevel() {
        MillTalk x = new MillTalk();
        check.due("1", x.hours(1), STATE);
        check.due("0", x.hours(0), STATE);
        check.due("25", x.hours(25), STATE);
    }

    private static MillTalk hour984() {
        MillTalk x = Check.told("m5,0,0;w2;w3;s4,1;");
        for (int i = 0; i < 41; i++) {
            x.hours(24);
        }
        check.due("the test's own hour", x.count(3), 984);
        return x;
    }

    /** "FULL: HOUR would be above 999." */
    private static void hoursEndAt999() {
        MillTalk x = hour984();
        check.due("16 more", x.hours(16), FULL);
        check.due("24 more", x.hours(24), FULL);
        check.due("hour", x.count(3), 984);
        check.due("15 more", x.hours(15), 0);
        check.due("hour", x.count(3), 999);
        check.due("full", x.hours(1), FULL);
        check.due("undone", x.undo(), 23);
        check.due("hour", x.count(3), 998);
        check.due("once more", x.hours(1), 0);
        check.due("other acts go on", x.cap(), 0);
        check.due("foretold beyond", x.ahead(0, 60, 0), 4);
        check.due("gust beyond", x.gust(60), 3);
    }

    private static void badHoursAheadOfFull() {
        MillTalk x = hour984();
        check.due("25 more", x.hours(25), BAD);
        check.due("far more", x.hours(FAR_UP), BAD);
        x.hours(15);
        check.due("0 more", x.hours(0), BAD);
    }

    /** ": MEAL then" */
    private static void mealBehindHours() {
        MillTalk x = Check.told("m9,7,1;w3;v3,5;v0,4;");
        check.due("3", x.hours(3), 0);
        check.due("the 4th", x.hours(1), 5);
        check.due("2 more", x.hours(2), 5);
        check.due("the 7th", x.hours(1), 9);
    }

    /** "The CAP is turned: how it is then. STATE: no LEVEL." */
    private static void theCapIsTurned() {
        check.due("no level", new MillTalk().cap(), STATE);
        MillTalk x = Check.told("m5,0,0;w2;s4,1;");
        check.due("down", x.cap(), 0);
        check.due("stands so", x.stand(3), 0);
        check.due("up", x.cap(), 1);
        check.due("stands so", x.stand(3), 1);
        check.due("acts", x.count(6), 2);
    }

    /** "A WIND (0 to 4): what it was." */
    private static void aWindBecomesAnother() {
        MillTalk x = Check.told("m5,0,0;w2;w3;s4,1;");
        check.due("was", x.wind(1, 0), 3);
        check.due("is", x.gust(1), 0);
        check.due("the other stays", x.gust(0), 2);
        check.due("was", x.wind(1, 4), 0);
        check.due("to the same", x.wind(1, 4), 4);
        check.due("each an act", x.count(6), 3);
        x.hours(1);
        check.due("by number, not by hour", x.wind(0, 1), 2);
        check.due("of this hour the second", x.gust(0), 4);
    }

    /** "BAD (.. there is no such thing)" */
    private static void windsThatThereAreNot() {
        check.due("no level", new MillTalk().wind(0, 0), BAD);
        MillTalk x = Check.told("m5,0,0;w2;w3;s4,1;");
        for (int wind : new int[] {-1, 2, 5, 6, FAR_UP, FAR_DOWN}) {
            check.due("wind " + wind, x.wind(wind, 0), BAD);
        }
        MillTalk six = Check.told("m5,0,0;w0;w0;w0;w0;w0;w1;s4,1;");
        check.due("wind 5 of six", six.wind(5, 0), 1);
        check.due("wind 6 of six", six.wind(6, 0), BAD);
    }

    private static void aWindIs0To4() {
        MillTalk x = Check.told("m5,0,0;w2;s4,1;");
        for (int v : new int[] {-1, 5, FAR_UP, FAR_DOWN}) {
            check.due("to " + v, x.wind(0, v), BAD);
        }
        check.due("to 0", x.wind(0, 0), 2);
        check.due("to 4", x.wind(0, 4), 0);
        check.due("is 4", x.gust(0), 4);
    }

    /** "Let loose in a CELL, so LOUD (1 to 20): SOUNDS that are LOOSE then (bits)." */
    private static void soundsAreLetLoose() {
        MillTalk x = Check.told("m5,0,1;w3;v0,5;v4,6;s4,7;");
        x.hours(1);
        check.due("loose is one", x.stand(4), 4);
        check.due("ground, let loose", x.loose(0, 0, 1), 5);
        check.due("lost, let loose", x.loose(1, 4, 20), 7);
        check.due("cell 0", x.sound(0, 0), 0);
        check.due("loud 1", x.sound(0, 2), 1);
        check.due("cell 4", x.sound(1, 0), 4);
        check.due("loud 20", x.sound(1, 2), 20);
        check.due("loose", x.sound(1, 1), 0);
        check.due("none ground", x.stand(5), 0);
        check.due("none lost", x.stand(6), 0);
        check.due("meal stays", x.count(4), 5);
        check.due("ground anew", x.hours(1), 6);
    }

    /** "STATE: it is LOOSE." */
    private static void oneThatIsLoose() {
        MillTalk x = Check.told("m5,0,1;w3;v0,5;s4,7;");
        check.due("at first", x.loose(0, 0, 1), STATE);
        x.hours(1);
        check.due("ground", x.loose(0, 3, 1), 3);
        check.due("loose again", x.loose(0, 3, 1), STATE);
        check.due("the sea", x.loose(1, 0, 1), STATE);
        check.due("it stays", x.sound(1, 0), 4);
    }

    private static void noSuchSoundCellOrLoud() {
        check.due("no level", new MillTalk().loose(0, 0, 1), BAD);
        MillTalk x = Check.told("m5,0,1;w3;v0,5;v4,6;");
        x.hours(1);
        for (int sound : new int[] {-1, 2, 6, FAR_UP, FAR_DOWN}) {
            check.due("sound " + sound, x.loose(sound, 0, 1), BAD);
        }
        for (int cell : new int[] {-1, 5, 15, FAR_UP, FAR_DOWN}) {
            check.due("cell " + cell, x.loose(0, cell, 1), BAD);
        }
        for (int loud : new int[] {0, -1, 21, FAR_UP, FAR_DOWN}) {
            check.due("loud " + loud, x.loose(0, 0, loud), BAD);
        }
        check.due("none is loose", x.count(5), 0);
    }

    private static void badAheadOfItIsLoose() {
        MillTalk x = Check.told("m5,0,1;w3;v3,5;");
        check.due("cell 5", x.loose(0, 5, 1), BAD);
        check.due("loud 0", x.loose(0, 0, 0), BAD);
        check.due("loud 21", x.loose(0, 0, 21), BAD);
        check.due("none of it", x.loose(0, 0, 1), STATE);
    }

    /** "n of MEAL sold ..: MEAL then." */
    private static void mealIsSold() {
        MillTalk x = Check.told("m5,0,1;w3;v0,5;");
        x.hours(1);
        check.due("some", x.sell(2), 3);
        check.due("all", x.sell(3), 0);
        check.due("none", x.count(4), 0);
    }

    /** "(1 to 999)" */
    private static void soldIs1To999() {
        MillTalk x = Check.told("m5,0,4;w3;s0,20;s1,20;s2,20;s3,20;s4,20;s0,20;");
        for (int i = 0; i < 9; i++) {
            x.hours(1);
            for (int s = 0; s < 6; s++) {
                x.loose(s, 0, 20);
            }
        }
        check.due("meal", x.count(4), 999);
        for (int n : new int[] {0, -1, 1000, FAR_UP, FAR_DOWN}) {
            check.due("sell " + n, x.sell(n), BAD);
        }
        check.due("sell 1", x.sell(1), 998);
        x.undo();
        check.due("sell 999", x.sell(999), 0);
    }

    /** "STATE: no LEVEL (ahead of BAD), there is not so much." */
    private static void notSoMuchMeal() {
        MillTalk x = new MillTalk();
        check.due("no level", x.sell(1), STATE);
        check.due("no level, 0", x.sell(0), STATE);
        check.due("no level, 1000", x.sell(1000), STATE);
        Check.tell(x, "m5,0,1;w3;v0,5;");
        check.due("nothing yet", x.sell(1), STATE);
        check.due("999 of nothing", x.sell(999), STATE);
        check.due("bad ahead of it", x.sell(1000), BAD);
        check.due("bad ahead of it, too", x.sell(0), BAD);
        x.hours(1);
        check.due("one too much", x.sell(6), STATE);
        check.due("just so much", x.sell(5), 0);
    }

    /** "0 its CELL (NONE: not LOOSE), 1 how it is .., 2 LOUD (as it was when it was GROUND, LOST)" */
    private static void whatIsSeenOfASound() {
        MillTalk x = Check.told("m9,3,0;w3;d4,5;v8,6;v4,7;");
        x.hours(1);
        check.due("ground: no cell", x.sound(0, 0), NONE);
        check.due("ground", x.sound(0, 1), 1);
        check.due("loud when it was ground", x.sound(0, 2), 4);
        check.due("lost: no cell", x.sound(1, 0), NONE);
        check.due("lost", x.sound(1, 1), 2);
        check.due("loud when it was lost", x.sound(1, 2), 6);
        check.due("loose: its cell", x.sound(2, 0), 5);
        check.due("loose", x.sound(2, 1), 0);
        check.due("loud", x.sound(2, 2), 7);
        x.hours(2);
        check.due("loud when it was ground, still", x.sound(0, 2), 4);
    }

    /** "3 by how many CELLS it would drift up in this HOUR (below 0: down)" */
    private static void driftOfThisHour() {
        MillTalk x = Check.told("m15,0,0;w4;w1;w2;v5,6;h5,6;b5,6;d5,6;s5,6;v14,1;");
        int[] first = {2, 4, 1, -2, 0, 2};
        int[] second = {-1, -2, 0, 1, 0, -1};
        for (int s = 0; s < 6; s++) {
            check.due("first hour " + s, x.sound(s, 3), first[s]);
        }
        x.hours(1);
        check.due("one is lost", x.sound(5, 1), 2);
        for (int s = 0; s < 6; s++) {
            check.due("second hour " + s, x.sound(s, 3), second[s]);
        }
        x.hours(1);
        for (int s = 0; s < 6; s++) {
            check.due("in a calm " + s, x.sound(s, 3), 0);
        }
        x.hours(1);
        check.due("from the first wind on", x.sound(0, 3), 2);
    }

    private static void noSuchSoundOrQuestion() {
        check.due("no level", new MillTalk().sound(0, 0), BAD);
        MillTalk x = Check.told("m5,0,0;w2;s4,1;v1,1;");
        for (int sound : new int[] {-1, 2, 6, FAR_UP, FAR_DOWN}) {
            check.due("sound " + sound, x.sound(sound, 0), BAD);
        }
        for (int what : new int[] {-1, 4, FAR_UP, FAR_DOWN}) {
            check.due("what " + what, x.sound(0, what), BAD);
        }
    }

    /** "0 CELLS, 1 MILL, 2 REACH, 3 the CAP (1, 0), 4 which are LOOSE (bits), 5 GROUND, 6 LOST" */
    private static void whatStands() {
        MillTalk x = Check.told("m9,3,2;w3;d4,5;v8,6;v5,7;s0,1;v2,2;h8,1;");
        x.hours(1);
        int[] due = {9, 3, 2, 1, 1 << 2 | 1 << 3, 1 | 1 << 4, 1 << 1 | 1 << 5};
        for (int what = 0; what < due.length; what++) {
            check.due("stand " + what, x.stand(what), due[what]);
        }
    }

    /** "BAD; STATE: no LEVEL (ahead of BAD)" of promise 16. */
    private static void noSuchStand() {
        MillTalk x = new MillTalk();
        check.due("no level", x.stand(0), STATE);
        check.due("no level, 7", x.stand(7), STATE);
        check.due("no level, -1", x.stand(-1), STATE);
        Check.tell(x, "m5,0,0;w2;s4,1;");
        for (int what : new int[] {-1, 7, FAR_UP, FAR_DOWN}) {
            check.due("stand " + what, x.stand(what), BAD);
        }
    }

    /** "The WIND of the HOUR that is n on" */
    private static void gustsToCome() {
        MillTalk x = Check.told("m15,14,0;w3;w0;w4;v5,1;");
        int[] gusts = {3, 0, 4};
        for (int n = 0; n <= 60; n++) {
            check.due("gust " + n, x.gust(n), gusts[n % 3]);
        }
        x.hours(2);
        for (int n = 0; n <= 60; n++) {
            check.due("gust " + n + " from hour 2", x.gust(n), gusts[(n + 2) % 3]);
        }
    }

    /** "(0 to 60). BAD; STATE: no LEVEL (ahead of BAD)." */
    private static void gustsAre0To60() {
        MillTalk x = new MillTalk();
        check.due("no level", x.gust(0), STATE);
        check.due("no level, 61", x.gust(61), STATE);
        check.due("no level, -1", x.gust(-1), STATE);
        Check.tell(x, "m5,0,0;w1;s4,1;");
        check.due("0", x.gust(0), 1);
        check.due("60", x.gust(60), 1);
        for (int n : new int[] {-1, 61, FAR_UP, FAR_DOWN}) {
            check.due("gust " + n, x.gust(n), BAD);
        }
    }

    /** "An IMAGE (0, 1) is kept of the LEVEL: 1.": it stays as it was kept. */
    private static void imagesAreKept() {
        MillTalk x = level();
        x.hours(1);
        check.due("image 0", x.image(0), 1);
        check.due("it is no act, and forgets none", x.count(6), 1);
        x.wind(0, 0);
        x.cap();
        x.hours(2);
        check.due("restore", x.restore(0), 1);
        check.due("hour", x.count(3), 1);
        x.hours(1);
        x.cap();
        check.due("restore again", x.restore(0), 1);
        check.due("hour again", x.count(3), 1);
        check.due("cap again", x.stand(3), 1);
        x.cap();
        check.due("another in its place", x.image(0), 1);
        x.cap();
        x.restore(0);
        check.due("the other one", x.stand(3), 0);
    }

    private static void imagesOfTwo() {
        MillTalk x = level();
        x.image(0);
        x.hours(3);
        x.image(1);
        x.hours(1);
        x.restore(0);
        check.due("hour 0", x.count(3), 0);
        x.restore(1);
        check.due("hour 3", x.count(3), 3);
        for (int k : new int[] {-1, 2, FAR_UP, FAR_DOWN}) {
            check.due("image " + k, x.image(k), BAD);
            check.due("restore " + k, x.restore(k), BAD);
        }
    }

    /** "BAD; STATE: no LEVEL." of promise 31, in this order. */
    private static void imagesNeedALevel() {
        MillTalk x = new MillTalk();
        check.due("image 0", x.image(0), STATE);
        check.due("image 1", x.image(1), STATE);
        check.due("image 2", x.image(2), BAD);
        check.due("image -1", x.image(-1), BAD);
        Check.tell(x, "m5,0,0;w2;s4,1;");
        check.due("none was kept", x.restore(0), STATE);
    }

    /** "The LEVEL is as an IMAGE kept it": another LEVEL was read since. */
    private static void restoredAsItWas() {
        MillTalk x = level();
        x.hours(1);
        x.wind(1, 0);
        x.cap();
        x.image(1);
        Check.tell(x, "m5,0,0;w2;s0,1;");
        x.hours(5);
        check.due("restore", x.restore(1), 1);
        int[] stands = {9, 2, 1, 0, 1 << 1, 1 | 1 << 2, 1 << 3};
        for (int what = 0; what < stands.length; what++) {
            check.due("stand " + what, x.stand(what), stands[what]);
        }
        check.due("hour", x.count(3), 1);
        check.due("meal", x.count(4), 7);
        check.due("sounds", x.count(1), 4);
        check.due("winds", x.count(2), 2);
        check.due("wind of this hour", x.gust(0), 0);
        check.due("wind of the next", x.gust(1), 3);
        check.due("cell", x.sound(1, 0), 4);
        check.due("loud", x.sound(1, 2), 3);
        check.due("kind", x.kind(3), 1);
        check.due("where it was lost", x.ask(3, 1), 3 + 8);
    }

    /** "BAD; STATE: none was kept." of promise 32, in this order. */
    private static void noImageWasKept() {
        MillTalk x = new MillTalk();
        check.due("no level", x.restore(0), STATE);
        check.due("no level, no such image", x.restore(2), BAD);
        Check.tell(x, "m5,0,0;w2;s4,1;");
        x.image(0);
        x.cap();
        check.due("not this one", x.restore(1), STATE);
        check.due("refused: the acts stay", x.count(6), 1);
        check.due("refused: the cap stays", x.stand(3), 0);
        check.due("this one", x.restore(0), 1);
    }

    /** "(no ACT can be undone then)" */
    private static void restoredNothingCanBeUndone() {
        MillTalk x = level();
        x.hours(1);
        x.image(0);
        x.cap();
        x.restore(0);
        check.due("acts", x.count(6), 0);
        check.due("undo", x.undo(), STATE);
        x.cap();
        check.due("from then on", x.undo(), 0);
        check.due("as it was restored", x.stand(3), 1);
    }

    /** "The LEVEL is as an IMAGE kept it": ROWS, the tape, THE TRACE, the FAULT, status(), IMAGES are no part of it. */
    private static void restoredTheRestStays() {
        MillTalk x = level();
        x.image(0);
        x.cap();
        x.image(1);
        Check.fill(x, 2, 7, 8);
        Check.tell(x, "m4");
        x.feed('m');
        x.ask(1, 0);
        x.as(1, 1);
        check.due("restore", x.restore(0), 1);
        check.due("a row", x.count(0), 1);
        check.due("the tape", x.count(7), 1);
        check.due("the trace", x.trace(0), 13);
        check.due("the fault", x.fault(), 2);
        check.due("status: a KIND", x.status(), 3);
        check.due("the other image", x.restore(1), 1);
        check.due("its cap", x.stand(3), 0);
        check.due("the tape goes on", x.feed('5'), 2);
        x.level();
        check.same("the row", Check.items(x, 2, 2), "7 8");
    }

    /** "How many: 0 ROWS, 1 SOUNDS, 2 WINDS, 3 HOUR, 4 MEAL, 5 .. LOOSE, 6 ACTS .., 7 bytes on the tape." */
    private static void counts() {
        MillTalk x = level();
        x.hours(1);
        x.cap();
        x.row(0, 0, 1);
        x.row(7, 0, 0);
        x.row(3, 2, 40);
        x.feed('m');
        int[] due = {3, 4, 2, 1, 7, 1, 2, 1};
        for (int what = 0; what < due.length; what++) {
            check.due("count " + what, x.count(what), due[what]);
        }
    }

    private static void noSuchCount() {
        for (MillTalk x : new MillTalk[] {new MillTalk(), level()}) {
            for (int what : new int[] {-1, 8, FAR_UP, FAR_DOWN}) {
                check.due("count " + what, x.count(what), BAD);
            }
        }
    }

    /** "An object is used for at most 512 calls" */
    private static void the512thCall() {
        MillTalk x = Check.told("m15,0,0;w3;w1;v5,1;");
        // The text and level() were 20 calls.
        for (int call = 21; call <= 510; call++) {
            x.hours(1);
        }
        check.due("the 511th", x.count(3), 490);
        check.due("the 512th", x.sound(0, 0), 5);
    }
}
