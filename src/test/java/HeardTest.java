/** Terms, part 3 (what a row tells), promises 27, 28, and 38 for these: a test for each sentence. */
public final class HeardTest {
    private static final int BAD = MillTalk.BAD, STATE = MillTalk.STATE, NULL = -1000011, PLACE = -1000012;
    private static final int FAR_UP = Integer.MAX_VALUE, FAR_DOWN = Integer.MIN_VALUE;
    private static final int ALL_KINDS = 62;
    private static final Check check = new Check();

    public static void main(String[] args) {
        kindsByWhichItIsSo();
        allKindsInACalm();
        kindsThatAreLost();
        startsByWhichItIsSo();
        startsInTheFirstAndLastCell();
        startsByWhichItIsGround();
        itemsThatAreNoCells();
        ninetyNineIsNotLoose();
        rowsOfEachLane();
        fromPlaceIOn();
        fromNowOn();
        heardFor1And12();
        gustsOfAWind();
        windsThatHaveNotBlown();
        gustsOfALaterTurn();
        reachesByWhichItIsSo();
        reachesThatDoNotMatter();
        nothingIsChanged();
        noSuchSound();
        noSuchQuestion();
        noSuchWind();
        noSuchRow();
        heardForNoSuchHours();
        soundsThatAreNotLoose();
        rowsThatAreMissing();
        placesThatThereAreNot();
        refusalsInTheirOrder();
        statusBehindThem();
        check.end();
    }

    /** "KINDS (bits 1 to 5) .. by which it is so": the mill is far up, the winds are one up, two up. */
    private static void kindsByWhichItIsSo() {
        MillTalk x = Check.told("m15,14,0;w3;w4;v5,3;");
        Check.fill(x, 0, 6, 8);
        check.due("a voice", x.who(0, 0, 0, 0, 2), 1 << 1);
        Check.fill(x, 0, 5, 6);
        check.due("a band or the sea, at first", x.who(0, 0, 0, 0, 1), 1 << 2 | 1 << 5);
        check.due("a band", x.who(0, 0, 0, 0, 2), 1 << 2);
        Check.fill(x, 0, 7, 11);
        check.due("a hare", x.who(0, 0, 0, 0, 2), 1 << 3);
        Check.fill(x, 0, 4, 2);
        check.due("some Dutch", x.who(0, 0, 0, 0, 2), 1 << 4);
        Check.fill(x, 0, 5, 5);
        check.due("the sea", x.who(0, 0, 0, 0, 2), 1 << 5);
        Check.fill(x, 0, 9, 9);
        check.due("none", x.who(0, 0, 0, 0, 2), 0);
    }

    private static void allKindsInACalm() {
        MillTalk x = Check.told("m15,14,0;w2;v5,3;");
        Check.fill(x, 0, 5, 5, 5);
        check.due("two hours", x.who(0, 0, 0, 0, 2), ALL_KINDS);
        check.due("in the third Dutch is lost", x.who(0, 0, 0, 0, 3), ALL_KINDS - (1 << 4));
    }

    private static void kindsThatAreLost() {
        MillTalk x = Check.told("m15,14,0;w3;w4;d5,1;v0,2;");
        Check.fill(x, 0, 99, 99);
        check.due("lost at once is Dutch", x.who(0, 0, 0, 0, 2), 1 << 4);
        check.due("below 0, too", x.who(1, 0, 0, 0, 2), 1 << 4);
        Check.fill(x, 0, 4, 2);
        check.due("no Dutch, with 1", x.who(0, 0, 0, 0, 2), 0);
    }

    /** "STARTS (CELLS, bits)" */
    private static void startsByWhichItIsSo() {
        MillTalk x = Check.told("m9,7,1;w3;w4;v5,3;");
        Check.fill(x, 3, 2, 4);
        check.due("from 1", x.who(0, 1, 3, 0, 2), 1 << 1);
        Check.fill(x, 3, 1, 3, 4, 6, 99);
        check.due("to the end", x.who(0, 1, 3, 0, 5), 1);
        Check.fill(x, 3, 0);
        check.due("from none", x.who(0, 1, 3, 0, 1), 0);
    }

    private static void startsInTheFirstAndLastCell() {
        MillTalk x = Check.told("m15,7,0;w2;s5,1;");
        for (int cell = 0; cell < 15; cell++) {
            Check.fill(x, 0, cell);
            check.due("from " + cell, x.who(0, 1, 0, 0, 1), 1 << cell);
        }
        MillTalk y = Check.told("m5,2,0;w2;s3,1;");
        Check.fill(y, 0, 4);
        check.due("the last of 5", y.who(0, 1, 0, 0, 1), 1 << 4);
        Check.fill(y, 0, 5);
        check.due("beyond it", y.who(0, 1, 0, 0, 1), 0);
    }

    private static void startsByWhichItIsGround() {
        MillTalk x = Check.told("m9,5,1;w3;v0,3;");
        Check.fill(x, 0, 99);
        check.due("to 5, 6, or beyond 8", x.who(0, 1, 0, 0, 1), 1 << 4 | 1 << 5 | 1 << 8);
        x.cap();
        check.due("to 5, 4, or beyond 8", x.who(0, 1, 0, 0, 1), 1 << 4 | 1 << 3 | 1 << 8);
    }

    private static void itemsThatAreNoCells() {
        MillTalk x = Check.told("m9,5,1;w3;v0,3;");
        for (int item : new int[] {-1, 9, 15, 98, 100, FAR_UP, FAR_DOWN, MillTalk.NONE}) {
            Check.fill(x, 0, item);
            check.due("kinds for " + item, x.who(0, 0, 0, 0, 1), 0);
            check.due("starts for " + item, x.who(0, 1, 0, 0, 1), 0);
            check.due("gusts for " + item, x.gusts(0, 0, 0, 0, 1), 0);
            check.due("reaches for " + item, x.gusts(-1, 0, 0, 0, 1), 0);
        }
    }

    /** "(99: not LOOSE)": ground or lost, and so behind all later hours. */
    private static void ninetyNineIsNotLoose() {
        MillTalk x = Check.told("m9,5,1;w3;v3,3;v7,3;");
        Check.fill(x, 0, 4, 99, 99, 99);
        check.due("ground", x.who(0, 0, 0, 0, 4), 1 << 1);
        Check.fill(x, 0, 4, 99, 6);
        check.due("not loose again", x.who(0, 0, 0, 0, 3), 0);
        Check.fill(x, 0, 8, 99, 99);
        check.due("lost", x.who(1, 0, 0, 0, 3), 1 << 1);
    }

    private static void rowsOfEachLane() {
        MillTalk x = Check.told("m9,5,1;w3;v3,3;");
        for (int lane = 0; lane < 3; lane++) {
            x.row(lane, lane, 2);
            x.set(lane, 0, 4);
            x.set(lane, 1, 99);
            check.due("lane " + lane, x.who(0, 0, lane, 0, 2), 1 << 1);
            check.due("gusts, lane " + lane, x.gusts(0, 0, lane, 0, 2), 1 << 3);
        }
    }

    /** "n ITEMS of a ROW from i on" */
    private static void fromPlaceIOn() {
        MillTalk x = Check.told("m9,7,1;w3;w4;v5,3;");
        Check.fill(x, 3, 0, 0, 2, 4, 99);
        check.due("from place 2 on", x.who(0, 1, 3, 2, 2), 1 << 1);
        check.due("the last place", x.who(0, 1, 3, 4, 1), 1 << 6 | 1 << 7 | 1 << 8);
        check.due("gusts from place 4 on", x.gusts(0, 0, 3, 4, 1), 1 << 4);
    }

    /** "behind each of n HOURS .. from now on" */
    private static void fromNowOn() {
        MillTalk x = Check.told("m15,14,0;w3;w1;w2;v5,3;");
        Check.fill(x, 0, 6, 5);
        check.due("from the first hour on", x.who(0, 0, 0, 0, 2), 1 << 1);
        x.hours(1);
        check.due("not from the second", x.who(0, 0, 0, 0, 2), 0);
        Check.fill(x, 0, 5, 5, 6);
        check.due("5, 5, 6 from the second", x.who(0, 0, 0, 0, 3), 1 << 1);
        check.due("the first wind comes last", x.gusts(0, 0, 0, 0, 3), 1 << 3);
    }

    /** "n HOURS (1 to 12)" */
    private static void heardFor1And12() {
        MillTalk x = Check.told("m15,14,0;w3;v1,3;");
        Check.fill(x, 0, 2, 3, 4, 5, 6, 7, 8, 9, 10, 11, 12, 99);
        check.due("1", x.who(0, 0, 0, 0, 1), 1 << 1);
        check.due("11", x.who(0, 0, 0, 0, 11), 1 << 1);
        check.due("12", x.who(0, 0, 0, 0, 12), 0);
        check.due("gusts, 11", x.gusts(0, 0, 0, 0, 11), 1 << 3);
        check.due("gusts, 12", x.gusts(0, 0, 0, 0, 12), 0);
        x.set(0, 11, 13);
        check.due("12 as it is so", x.who(0, 0, 0, 0, 12), 1 << 1);
        check.due("gusts, 12 as it is so", x.gusts(0, 0, 0, 0, 12), 1 << 3);
    }

    /** "GUSTS (0 to 4, bits) of a WIND" */
    private static void gustsOfAWind() {
        MillTalk x = Check.told("m15,14,0;w3;w4;b5,3;v8,3;");
        Check.fill(x, 1, 5, 6, 6);
        check.due("the first by a band", x.gusts(0, 0, 1, 0, 3), 1 << 1 | 1 << 2 | 1 << 3);
        check.due("the second by a band", x.gusts(1, 0, 1, 0, 3), 1 << 4);
        for (int wind = 0; wind <= 4; wind++) {
            Check.fill(x, 1, 6 + wind);
            check.due("by a voice " + wind, x.gusts(0, 1, 1, 0, 1), 1 << wind);
        }
        MillTalk y = Check.told("m15,14,0;w2;s8,3;");
        Check.fill(y, 1, 8);
        check.due("by the sea", y.gusts(0, 0, 1, 0, 1), 31);
    }

    private static void windsThatHaveNotBlown() {
        MillTalk x = Check.told("m15,14,0;w3;w4;w0;w0;w0;w0;v5,3;");
        Check.fill(x, 1, 6, 8);
        check.due("the second has not", x.gusts(1, 0, 1, 0, 1), 31);
        check.due("the second has", x.gusts(1, 0, 1, 0, 2), 1 << 4);
        check.due("the sixth has not", x.gusts(5, 0, 1, 0, 2), 31);
        Check.fill(x, 1, 7);
        check.due("no wind that has not blown helps", x.gusts(1, 0, 1, 0, 1), 0);
    }

    /** A wind that blows twice in these hours is the same both times. */
    private static void gustsOfALaterTurn() {
        MillTalk x = Check.told("m15,14,0;w3;w2;v5,3;");
        Check.fill(x, 1, 4, 4, 3, 3);
        check.due("one down, twice", x.gusts(0, 0, 1, 0, 4), 1 << 1);
        Check.fill(x, 1, 4, 4, 5, 5);
        check.due("not down, then up", x.gusts(0, 0, 1, 0, 4), 0);
    }

    /** "REACHES (0 to 4, bits) by which it is so" */
    private static void reachesByWhichItIsSo() {
        for (int to = 4; to <= 9; to++) {
            MillTalk x = Check.told("m15,4,2;w3;v" + (to - 1) + ",3;");
            int far = to - 4;
            int grinding = 31 & 31 << far;
            Check.fill(x, 1, to);
            check.due("not ground in " + to, x.gusts(-1, 0, 1, 0, 1), 31 & ~grinding);
            Check.fill(x, 1, 99);
            check.due("ground in " + to, x.gusts(-1, 0, 1, 0, 1), grinding);
        }
        MillTalk y = Check.told("m15,8,2;w3;v5,3;");
        Check.fill(y, 1, 99);
        check.due("up: none", y.gusts(-1, 0, 1, 0, 1), 0);
        y.cap();
        check.due("down: two cells and more", y.gusts(-1, 0, 1, 0, 1), 1 << 2 | 1 << 3 | 1 << 4);
    }

    private static void reachesThatDoNotMatter() {
        MillTalk x = Check.told("m15,4,2;w2;v5,3;");
        Check.fill(x, 1, 5);
        check.due("a calm", x.gusts(-1, 0, 1, 0, 1), 31);
        Check.fill(x, 1, 99);
        check.due("none in a calm", x.gusts(-1, 0, 1, 0, 1), 0);
    }

    /** "FORETOLD (nothing changes)" */
    private static void nothingIsChanged() {
        MillTalk x = Check.told("m15,4,2;w3;v8,3;");
        Check.fill(x, 1, 9);
        x.who(0, 0, 1, 0, 1);
        x.who(0, 1, 1, 0, 1);
        x.gusts(0, 0, 1, 0, 1);
        x.gusts(-1, 0, 1, 0, 1);
        check.due("the kind", x.kind(0), 1);
        check.due("the cell", x.sound(0, 0), 8);
        check.due("the wind", x.gust(0), 3);
        check.due("the reach", x.stand(2), 2);
        check.due("the hour", x.count(3), 0);
        check.due("no act", x.count(6), 0);
        check.same("the row", Check.items(x, 1, 1), "9");
    }

    private static MillTalk heard() {
        MillTalk x = Check.told("m9,7,1;w3;w4;v5,3;v8,1;");
        Check.fill(x, 0, 6, 99, 0, 0, 0, 0, 0, 0, 0, 0, 0, 0, 0);
        x.hours(1);
        return x;
    }

    /** "BAD: SOUND .." */
    private static void noSuchSound() {
        MillTalk x = heard();
        for (int sound : new int[] {-1, 2, 6, FAR_UP, FAR_DOWN}) {
            check.due("who " + sound, x.who(sound, 0, 0, 0, 1), BAD);
            check.due("gusts by " + sound, x.gusts(0, sound, 0, 0, 1), BAD);
        }
        check.due("who, no level", new MillTalk().who(0, 0, 0, 0, 1), BAD);
        check.due("gusts, no level", new MillTalk().gusts(-1, 0, 0, 0, 1), BAD);
    }

    /** "BAD: .. which .." */
    private static void noSuchQuestion() {
        MillTalk x = heard();
        for (int which : new int[] {-1, 2, FAR_UP, FAR_DOWN}) {
            check.due("which " + which, x.who(0, which, 0, 0, 1), BAD);
        }
    }

    /** "BAD: WIND .." */
    private static void noSuchWind() {
        MillTalk x = heard();
        check.due("wind 1", x.gusts(1, 0, 0, 1, 1), 1 << 3 | 1 << 4);
        check.due("wind -1: reaches", x.gusts(-1, 0, 0, 1, 1), 30);
        for (int wind : new int[] {-2, 2, 6, FAR_UP, FAR_DOWN}) {
            check.due("wind " + wind, x.gusts(wind, 0, 0, 0, 1), BAD);
        }
    }

    /** "BAD: .. ROW .." */
    private static void noSuchRow() {
        MillTalk x = heard();
        for (int row : new int[] {-1, 8, FAR_UP, FAR_DOWN}) {
            check.due("who, row " + row, x.who(0, 0, row, 0, 1), BAD);
            check.due("gusts, row " + row, x.gusts(0, 0, row, 0, 1), BAD);
        }
        x.row(7, 0, 1);
        check.due("who, row 7", x.who(0, 0, 7, 0, 1), 0);
    }

    /** "BAD: .. n" */
    private static void heardForNoSuchHours() {
        MillTalk x = heard();
        for (int n : new int[] {0, -1, 13, FAR_UP, FAR_DOWN}) {
            check.due("who, n " + n, x.who(0, 0, 0, 0, n), BAD);
            check.due("gusts, n " + n, x.gusts(0, 0, 0, 0, n), BAD);
        }
    }

    /** "STATE: it is not LOOSE" */
    private static void soundsThatAreNotLoose() {
        MillTalk x = Check.told("m9,7,1;w3;v6,3;v8,1;");
        Check.fill(x, 0, 99);
        check.due("loose yet", x.who(0, 0, 0, 0, 1), 1 << 1 | 1 << 3);
        x.hours(1);
        check.due("who was ground", x.who(0, 0, 0, 0, 1), STATE);
        check.due("starts of one that was ground", x.who(0, 1, 0, 0, 1), STATE);
        check.due("who was lost", x.who(1, 0, 0, 0, 1), STATE);
        check.due("gusts by one that was ground", x.gusts(0, 0, 0, 0, 1), STATE);
        check.due("reaches by one that was lost", x.gusts(-1, 1, 0, 0, 1), STATE);
    }

    /** "NULL" */
    private static void rowsThatAreMissing() {
        MillTalk x = heard();
        check.due("who, row 5", x.who(0, 0, 5, 0, 1), NULL);
        check.due("gusts, row 5", x.gusts(0, 0, 5, 0, 1), NULL);
        x.drop(0);
        check.due("who, dropped", x.who(0, 0, 0, 0, 1), NULL);
        check.due("reaches, dropped", x.gusts(-1, 0, 0, 0, 1), NULL);
    }

    /** "PLACE" */
    private static void placesThatThereAreNot() {
        MillTalk x = heard();
        check.due("who, 1 to 12", x.who(0, 0, 0, 1, 12), 0);
        check.due("who, 2 to 13", x.who(0, 0, 0, 2, 12), PLACE);
        check.due("gusts, 12", x.gusts(0, 0, 0, 12, 1), 0);
        check.due("gusts, 13", x.gusts(0, 0, 0, 13, 1), PLACE);
        for (int i : new int[] {-1, -12, FAR_UP, FAR_DOWN}) {
            check.due("who, place " + i, x.who(0, 0, 0, i, 12), PLACE);
            check.due("gusts, place " + i, x.gusts(0, 0, 0, i, 12), PLACE);
            check.due("reaches, place " + i, x.gusts(-1, 0, 0, i, 1), PLACE);
        }
        x.row(1, 0, 0);
        check.due("who, of no items", x.who(0, 0, 1, 0, 1), PLACE);
    }

    /** "BAD ..; STATE ..; NULL; PLACE" */
    private static void refusalsInTheirOrder() {
        MillTalk x = heard();
        check.due("who: bad n of a lost one", x.who(1, 0, 5, -1, 0), BAD);
        check.due("who: lost, row missing", x.who(1, 0, 5, -1, 1), STATE);
        check.due("who: missing, place", x.who(0, 0, 5, -1, 1), NULL);
        check.due("gusts: bad n of a lost one", x.gusts(0, 1, 5, -1, 0), BAD);
        check.due("gusts: bad wind of a lost one", x.gusts(2, 1, 5, -1, 1), BAD);
        check.due("gusts: lost, row missing", x.gusts(0, 1, 5, -1, 1), STATE);
        check.due("gusts: missing, place", x.gusts(0, 0, 5, -1, 1), NULL);
    }

    /** "Of the latest call with a ROW .. that was not BAD, STATE, FULL: the number of its FINDING; 0 .." */
    private static void statusBehindThem() {
        MillTalk x = heard();
        x.who(0, 0, 5, 0, 1);
        check.due("who found a missing row", x.status(), 1);
        x.who(1, 0, 0, 0, 1);
        check.due("who was STATE", x.status(), 1);
        x.gusts(0, 1, 0, 0, 1);
        check.due("gusts was STATE", x.status(), 1);
        x.who(0, 9, 0, 0, 1);
        check.due("who was BAD", x.status(), 1);
        x.gusts(0, 0, 0, 13, 1);
        check.due("gusts found no place", x.status(), 2);
        x.gusts(0, 0, 5, 0, 1);
        check.due("gusts found a missing row", x.status(), 1);
        x.gusts(0, 0, 0, 0, 1);
        check.due("gusts found nothing", x.status(), 0);
        x.who(0, 0, 0, 13, 1);
        check.due("who found no place", x.status(), 2);
        x.who(0, 1, 0, 0, 1);
        check.due("who found nothing", x.status(), 0);
    }
}
