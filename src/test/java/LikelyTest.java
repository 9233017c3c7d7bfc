/** Terms, part 3 (DROP, YEARS), and promises 29 and 30: a test for each sentence. */
public final class LikelyTest {
    private static final int BAD = MillTalk.BAD, STATE = MillTalk.STATE;
    private static final int FAR_UP = Integer.MAX_VALUE, FAR_DOWN = Integer.MIN_VALUE;
    private static final Check check = new Check();

    public static void main(String[] args) {
        aWindDropsInPOf10Cases();
        windsDropApart();
        sixWindsDrop();
        aCalmDropsUnseen();
        windsAreCalmFromNowOn();
        noneDrops();
        allDrop();
        noneIs0By1();
        oneThatIsGroundAlready();
        calmBehind0And60();
        calmOfNoSuchThing();
        yearsOfNoHours();
        theFirstDraw();
        drawsThatRunOver();
        theWindThatIsDrawn();
        theCapThatIsDrawn();
        theSoundThatIsDrawn();
        oneThatIsLooseStays();
        mealOfTheseHours();
        lostAtLast();
        yearsByHand();
        drawnOfNoSuchThing();
        check.end();
    }

    private static void fraction(MillTalk x, int sound, int n, int p, long above, long below) {
        check.due("calm " + n + " " + p + " above", x.calm(sound, n, p, 0), above);
        check.due("calm " + n + " " + p + " below", x.calm(sound, n, p, 1), below);
    }

    /** "each WIND is a calm .. in p of 10 cases", "fractions, told as two numbers in lowest terms" */
    private static void aWindDropsInPOf10Cases() {
        MillTalk x = Check.told("m9,4,0;w3;v3,7;");
        long[][] due = {{1, 1}, {9, 10}, {4, 5}, {7, 10}, {3, 5}, {1, 2}, {2, 5}, {3, 10}, {1, 5}, {1, 10}, {0, 1}};
        for (int p = 0; p <= 10; p++) {
            fraction(x, 0, 1, p, due[p][0], due[p][1]);
        }
    }

    /** "apart": from 1 it comes to 2, then 4, if both blow; to 2, 3, 4 by the first alone, behind 5 hours. */
    private static void windsDropApart() {
        MillTalk x = Check.told("m9,4,0;w3;w4;v1,5;");
        fraction(x, 0, 2, 5, 1, 4);
        fraction(x, 0, 2, 3, 49, 100);
        fraction(x, 0, 4, 2, 16, 25);
        fraction(x, 0, 5, 2, 4, 5);
        fraction(x, 0, 60, 2, 4, 5);
    }

    private static void sixWindsDrop() {
        MillTalk x = Check.told("m15,6,0;w3;w3;w3;w3;w3;w3;v0,1;");
        fraction(x, 0, 5, 1, 0, 1);
        fraction(x, 0, 6, 0, 1, 1);
        fraction(x, 0, 6, 1, 531441, 1000000);
        fraction(x, 0, 6, 9, 1, 1000000);
        fraction(x, 0, 6, 5, 1, 64);
        fraction(x, 0, 6, 10, 0, 1);
    }

    private static void aCalmDropsUnseen() {
        MillTalk x = Check.told("m9,4,0;w2;w3;v3,7;");
        fraction(x, 0, 2, 3, 7, 10);
    }

    /** "from now on": behind an hour it is the second that blows first. */
    private static void windsAreCalmFromNowOn() {
        MillTalk x = Check.told("m9,4,0;w3;w1;w3;v3,7;v4,7;");
        x.hours(1);
        check.due("the first is ground", x.sound(0, 1), 1);
        fraction(x, 0, 60, 10, 1, 1);
        // The other is in 5; the second wind brings it to 4.
        fraction(x, 1, 1, 4, 3, 5);
    }

    /** p = 0 */
    private static void noneDrops() {
        MillTalk x = Check.told("m9,4,0;w3;w4;v1,5;v8,5;");
        fraction(x, 0, 1, 0, 0, 1);
        fraction(x, 0, 2, 0, 1, 1);
        fraction(x, 1, 60, 0, 0, 1);
    }

    /** p = 10 */
    private static void allDrop() {
        MillTalk x = Check.told("m9,4,4;w3;w4;v4,5;s4,5;");
        fraction(x, 0, 60, 10, 0, 1);
        fraction(x, 1, 60, 10, 0, 1);
    }

    /** "(0 is 0 by 1)" */
    private static void noneIs0By1() {
        MillTalk x = Check.told("m9,4,0;w3;w4;v5,5;v8,5;");
        fraction(x, 0, 60, 5, 0, 1);
        x.hours(1);
        check.due("lost", x.sound(1, 1), 2);
        fraction(x, 1, 60, 5, 0, 1);
    }

    private static void oneThatIsGroundAlready() {
        MillTalk x = Check.told("m9,4,0;w3;v3,7;");
        fraction(x, 0, 0, 5, 0, 1);
        x.hours(1);
        for (int p = 0; p <= 10; p++) {
            fraction(x, 0, 0, p, 1, 1);
            fraction(x, 0, 60, p, 1, 1);
        }
    }

    /** "behind n HOURS (0 to 60)" */
    private static void calmBehind0And60() {
        MillTalk x = Check.told("m15,14,0;w2;w2;w2;w2;w2;w3;v4,1;");
        fraction(x, 0, 0, 3, 0, 1);
        fraction(x, 0, 59, 3, 0, 1);
        fraction(x, 0, 60, 3, 7, 10);
    }

    private static void calmOfNoSuchThing() {
        check.due("no level", new MillTalk().calm(0, 0, 0, 0), BAD);
        MillTalk x = Check.told("m9,4,0;w3;w4;v3,7;v1,5;");
        for (int sound : new int[] {-1, 2, 6, FAR_UP, FAR_DOWN}) {
            check.due("sound " + sound, x.calm(sound, 0, 0, 0), BAD);
        }
        for (int n : new int[] {-1, 61, FAR_UP, FAR_DOWN}) {
            check.due("n " + n, x.calm(0, n, 0, 0), BAD);
        }
        for (int p : new int[] {-1, 11, FAR_UP, FAR_DOWN}) {
            check.due("p " + p, x.calm(0, 0, p, 0), BAD);
        }
        for (int what : new int[] {-1, 2, FAR_UP, FAR_DOWN}) {
            check.due("what " + what, x.calm(0, 0, 0, what), BAD);
        }
    }

    // ---- promise 30

    /** n = 0 */
    private static void yearsOfNoHours() {
        MillTalk x = Check.told("m5,0,4;w3;v4,9;v0,3;");
        check.due("no meal", x.drawn(0, 1, 0), 0);
        check.due("none lost", x.drawn(0, 1, 1), 0);
        x.hours(1);
        check.due("meal there is", x.count(4), 3);
        check.due("none of it", x.drawn(0, 1, 0), 0);
        check.due("one is lost", x.drawn(0, 1, 1), 1);
    }

    /** "ahead of each X becomes the rest of (X times 16807) by 2147483647": with X = 1 the cap were up, too. */
    private static void theFirstDraw() {
        // X = 50421: by 3 leaves 0, by 5 leaves 1, by 2 leaves 1: the voice goes down to 3, and is ground.
        check.due("seed 3", Check.told("m5,0,4;w3;v4,9;").drawn(1, 3, 0), 9);
        // X = 33614: by 3 leaves 2, by 2 leaves 0: the cap is down, the voice beyond 4.
        check.due("seed 2", Check.told("m5,0,4;w3;v4,9;").drawn(1, 2, 0), 0);
        check.due("seed 2, lost", Check.told("m5,0,4;w3;v4,9;").drawn(1, 2, 1), 1);
    }

    /** 999999 times 16807 is 16806983193, the rest of it 1774597664: by 3 leaves 2, by 2 leaves 0. */
    private static void drawsThatRunOver() {
        MillTalk x = Check.told("m5,4,4;w3;v0,9;v4,5;");
        check.due("the cap is down: 9 from 1", x.drawn(1, 999999, 0), 9);
        check.due("the other is lost", x.drawn(1, 999999, 1), 1);
    }

    /** "the WIND that is the rest of X by how many there are is the rest of X by 5, if X by 3 leaves 0" */
    private static void theWindThatIsDrawn() {
        // X = 50421, then 847425747; both by 2 leave 1, by 3 0: the second wind is 1, then 2, a calm.
        MillTalk x = Check.told("m5,2,0;w3;w3;v1,9;");
        check.due("the first blows as it was", x.drawn(1, 3, 0), 9);
        // Let loose in 2, the mill's cell, and there is a calm.
        check.due("the second is a calm", x.drawn(2, 3, 0), 9);
        check.due("none lost", x.drawn(2, 3, 1), 0);
        // X = 16807 by 3 leaves 1: the one wind is as it was (it would be 2).
        check.due("no other wind", Check.told("m5,2,0;w3;v1,9;").drawn(1, 1, 0), 9);
    }

    /** "the CAP is the rest of X by 2" */
    private static void theCapThatIsDrawn() {
        MillTalk x = Check.told("m5,2,1;w3;v0,9;");
        check.due("33614: down", x.drawn(1, 2, 0), 9);
        check.due("16807: up", x.drawn(1, 1, 0), 0);
        x.cap();
        check.due("33614: down as it was", x.drawn(1, 2, 0), 9);
        check.due("16807: up again", x.drawn(1, 1, 0), 0);
    }

    /** "the SOUND .., if it is not LOOSE, is let loose in the CELL .., the rest of X by 9 and 1 LOUD" */
    private static void theSoundThatIsDrawn() {
        // X = 16807: by 2 leaves 1, by 3 leaves 1, by 5 leaves 2, by 9 leaves 4.
        MillTalk x = Check.told("m5,3,0;w3;v4,9;v4,8;");
        x.hours(1);
        check.due("both lost", x.drawn(0, 1, 1), 2);
        check.due("the second from 2, 5 loud", x.drawn(1, 1, 0), 5);
        check.due("the first is lost", x.drawn(1, 1, 1), 1);
        MillTalk y = Check.told("m5,3,0;w3;v4,9;v4,8;v4,7;");
        y.hours(1);
        check.due("of three the second", y.drawn(1, 1, 1), 2);
        MillTalk ground = Check.told("m5,3,0;w3;v2,9;");
        ground.hours(1);
        check.due("one that is ground, too", ground.drawn(1, 1, 0), 5);
    }

    /** 16807 by 15 leaves 7, the mill's cell, by 9 leaves 4: the sea is there already, and 2 loud. */
    private static void oneThatIsLooseStays() {
        MillTalk x = Check.told("m15,7,0;w3;s7,1;");
        check.due("2, not 6", x.drawn(1, 1, 0), 2);
        MillTalk y = Check.told("m15,7,0;w3;s6,1;");
        check.due("it stays in 6", y.drawn(1, 1, 0), 0);
    }

    /** "MEAL of these": what there is ahead of them is not. */
    private static void mealOfTheseHours() {
        MillTalk x = Check.told("m5,0,4;w1;v4,9;");
        x.hours(1);
        check.due("meal there is", x.count(4), 9);
        // X = 16807: let loose in cell 2, 5 loud; down to 1, ground.
        check.due("of these hours alone", x.drawn(1, 1, 0), 5);
        check.due("nothing changes", x.count(4), 9);
    }

    /** "how many are LOST at last": let loose again they are not. */
    private static void lostAtLast() {
        MillTalk x = Check.told("m5,0,0;w4;v4,9;v3,9;");
        x.hours(1);
        check.due("both", x.drawn(0, 1, 1), 2);
        // X = 16807: the second from 2 to 4. X = 282475249: it goes beyond 4.
        check.due("one", x.drawn(1, 1, 1), 1);
        check.due("both again", x.drawn(2, 1, 1), 2);
    }

    /** "YEARS of n HOURS (0 to 60)": the same is had by acts. */
    private static void yearsByHand() {
        String text = "m13,6,2;w3;w4;w1;v2,6;d8,4;h5,9;s1,3;";
        for (int seed : new int[] {1, 7, 4711, 65536, 127773, 999998, 999999}) {
            MillTalk x = Check.told(text);
            MillTalk y = Check.told(text);
            long draw = seed;
            for (int n = 0; n <= 60; n++) {
                check.due("seed " + seed + ", meal of " + n, x.drawn(n, seed, 0), y.count(4));
                check.due("seed " + seed + ", lost of " + n, x.drawn(n, seed, 1), Integer.bitCount(y.stand(6)));
                draw = Math.floorMod(draw * 16807L, 2147483647L);
                yearByHand(y, draw);
            }
        }
    }

    private static void yearByHand(MillTalk y, long draw) {
        if (draw % 3 == 0) {
            y.wind((int) (draw % 3), (int) (draw % 5));
        }
        if (y.stand(3) != draw % 2) {
            y.cap();
        }
        y.loose((int) (draw % 4), (int) (draw % 13), (int) (draw % 9) + 1);
        y.hours(1);
    }

    /** "by a SEED (1 to 999999)", "BAD; STATE: no LEVEL (ahead of BAD)." */
    private static void drawnOfNoSuchThing() {
        MillTalk none = new MillTalk();
        check.due("no level", none.drawn(0, 1, 0), STATE);
        check.due("no level, n 61", none.drawn(61, 1, 0), STATE);
        check.due("no level, seed 0", none.drawn(0, 0, 0), STATE);
        check.due("no level, what 2", none.drawn(0, 1, 2), STATE);
        MillTalk x = Check.told("m5,0,4;w3;v4,9;");
        check.due("seed 1", x.drawn(1, 1, 1), 1);
        check.due("seed 999999", x.drawn(0, 999999, 1), 0);
        for (int n : new int[] {-1, 61, FAR_UP, FAR_DOWN}) {
            check.due("n " + n, x.drawn(n, 1, 0), BAD);
        }
        for (int seed : new int[] {0, -1, 1000000, FAR_UP, FAR_DOWN}) {
            check.due("seed " + seed, x.drawn(1, seed, 0), BAD);
        }
        for (int what : new int[] {-1, 2, FAR_UP, FAR_DOWN}) {
            check.due("what " + what, x.drawn(1, 1, what), BAD);
        }
    }
}
