/** Terms, part 3, and promises 18 to 26: what is foretold, sought, shared, played; a test for each sentence. */
public final class ForetoldTest {
    private static final int BAD = MillTalk.BAD, STATE = MillTalk.STATE, NONE = MillTalk.NONE;
    private static final int FAR_UP = Integer.MAX_VALUE, FAR_DOWN = Integer.MIN_VALUE;
    /** A voice comes to the mill, in cell 14, behind 60 hours, another behind 66. */
    private static final String SLOW = "m15,14,0;w2;w2;w2;w2;w2;w3;v4,1;v3,2;";
    private static final Check check = new Check();

    public static void main(String[] args) {
        aheadOfASound();
        aheadBy0And60();
        aheadOfNoSuchThing();
        mealBehindHours();
        mealBehind0And60();
        mealOfNoSuchHours();
        whenGroundAndLost();
        whenIsItSoAlready();
        whenBehind60();
        whenOfNoSuchThing();
        capsHaveMost();
        capsWithTheFewestTurns();
        capsFromTheCapAsItIs();
        capsOfSeveralTheFirst();
        capsFor1And8();
        capsOfAFullSack();
        theKthCap();
        capsOfNoSuchThing();
        hadByTheFewestTurns();
        hadOfThoseThatAre();
        hadOfNone();
        hadOfAll();
        hadNever();
        hadFor1And8();
        hadOfNoSuchThing();
        siteHasMost();
        siteWithTheCapAsItIs();
        siteOfSeveralTheFirst();
        siteInTheLastCell();
        siteFor1And30();
        siteOfNoSuchThing();
        sackOfSets();
        sackOfNone();
        sackOfNoSet();
        sackOfThoseThatAreLoose();
        sackOf120();
        sackOfNoSuchThing();
        sharesAreCut();
        whatIsOverGoesToTheFirst();
        sharesOfThoseThatAreLoose();
        sharesOf0And999();
        sharesOfNoSuchThing();
        turnsOfNone();
        theMillerBegins();
        thenTheQuarter();
        turnsOfFour();
        theWindOfThisHourTurns();
        aCalmCannotBeTurned();
        turnsFor1And20();
        turnsOfNoSuchThing();
        foretoldBeyondTheLastHour();
        check.end();
    }

    // ---- promise 18

    /** "its CELL (NONE: not LOOSE); how it is (0 LOOSE, 1 GROUND, 2 LOST); LOUD" */
    private static void aheadOfASound() {
        MillTalk x = Check.told("m9,7,1;w3;v3,5;d6,2;s0,19;");
        int[] cells = {3, 4, 5, 6, NONE, NONE};
        for (int n = 0; n < cells.length; n++) {
            check.due("cell " + n, x.ahead(0, n, 0), cells[n]);
            check.due("how " + n, x.ahead(0, n, 1), n < 4 ? 0 : 1);
            check.due("loud " + n, x.ahead(0, n, 2), 5);
        }
        check.due("Dutch, an hour", x.ahead(1, 1, 0), 5);
        check.due("less loud", x.ahead(1, 1, 2), 1);
        check.due("lost: no cell", x.ahead(1, 2, 0), NONE);
        check.due("lost", x.ahead(1, 2, 1), 2);
        check.due("as ahead of it", x.ahead(1, 60, 2), 1);
        check.due("the sea", x.ahead(2, 1, 2), 20);
        check.due("20 at most", x.ahead(2, 2, 2), 20);
    }

    /** "by n HOURS (0 to 60)" */
    private static void aheadBy0And60() {
        MillTalk x = Check.told(SLOW);
        check.due("now", x.ahead(0, 0, 0), 4);
        check.due("behind 5", x.ahead(0, 5, 0), 4);
        check.due("behind 6", x.ahead(0, 6, 0), 5);
        check.due("behind 59", x.ahead(0, 59, 0), 13);
        check.due("behind 60", x.ahead(0, 60, 1), 1);
        check.due("the other one", x.ahead(1, 60, 0), 13);
        for (int n : new int[] {-1, 61, FAR_UP, FAR_DOWN}) {
            check.due("ahead by " + n, x.ahead(0, n, 0), BAD);
        }
    }

    private static void aheadOfNoSuchThing() {
        check.due("no level", new MillTalk().ahead(0, 0, 0), BAD);
        MillTalk x = Check.told(SLOW);
        for (int sound : new int[] {-1, 2, 6, FAR_UP, FAR_DOWN}) {
            check.due("sound " + sound, x.ahead(sound, 0, 0), BAD);
        }
        for (int what : new int[] {-1, 3, FAR_UP, FAR_DOWN}) {
            check.due("what " + what, x.ahead(0, 0, what), BAD);
        }
    }

    // ---- promise 19

    /** "MEAL behind n HOURS", with what there is. */
    private static void mealBehindHours() {
        MillTalk x = Check.told("m9,7,1;w3;v3,5;d6,2;v0,4;");
        int[] meals = {0, 0, 0, 0, 5, 5, 5, 9, 9};
        for (int n = 0; n < meals.length; n++) {
            check.due("meal " + n, x.meal(n), meals[n]);
        }
        x.hours(4);
        check.due("with what there is", x.meal(3), 9);
        check.due("now", x.meal(0), 5);
        x.sell(2);
        check.due("less what is sold", x.meal(3), 7);
    }

    private static void mealBehind0And60() {
        MillTalk x = Check.told(SLOW);
        check.due("0", x.meal(0), 0);
        check.due("59", x.meal(59), 0);
        check.due("60", x.meal(60), 1);
    }

    /** "BAD; STATE: no LEVEL (ahead of BAD)." */
    private static void mealOfNoSuchHours() {
        MillTalk none = new MillTalk();
        MillTalk x = Check.told(SLOW);
        check.due("no level, 0", none.meal(0), STATE);
        for (int n : new int[] {-1, 61, FAR_UP, FAR_DOWN}) {
            check.due("meal " + n, x.meal(n), BAD);
            check.due("no level, meal " + n, none.meal(n), STATE);
        }
    }

    // ---- promise 20

    /** "WHEN a SOUND is GROUND, LOST: behind how many HOURS .. first; NONE." */
    private static void whenGroundAndLost() {
        MillTalk x = Check.told("m9,7,1;w3;v3,5;d6,2;v0,4;s0,1;");
        check.due("ground", x.when(0, 1), 4);
        check.due("never lost", x.when(0, 2), NONE);
        check.due("lost", x.when(1, 2), 2);
        check.due("never ground", x.when(1, 1), NONE);
        check.due("the sea is not ground", x.when(3, 1), NONE);
        check.due("nor lost", x.when(3, 2), NONE);
    }

    private static void whenIsItSoAlready() {
        MillTalk x = Check.told("m9,7,1;w3;v6,5;v8,2;");
        check.due("ground in the first", x.when(0, 1), 1);
        check.due("lost in the first", x.when(1, 2), 1);
        x.hours(1);
        check.due("is ground", x.when(0, 1), 0);
        check.due("is lost", x.when(1, 2), 0);
        check.due("ground is never lost", x.when(0, 2), NONE);
        check.due("lost is never ground", x.when(1, 1), NONE);
    }

    /** "(0 to 60)" */
    private static void whenBehind60() {
        MillTalk x = Check.told(SLOW);
        check.due("in the 60th", x.when(0, 1), 60);
        check.due("in the 66th", x.when(1, 1), NONE);
        x.hours(5);
        check.due("in the 61st", x.when(1, 1), NONE);
        x.hours(1);
        check.due("in the 60th", x.when(1, 1), 60);
        MillTalk y = Check.told("m15,0,0;w2;w2;w2;w2;w2;w3;v5,1;v4,1;");
        check.due("lost in the 60th", y.when(0, 2), 60);
        check.due("lost in the 66th", y.when(1, 2), NONE);
    }

    private static void whenOfNoSuchThing() {
        check.due("no level", new MillTalk().when(0, 1), BAD);
        MillTalk x = Check.told(SLOW);
        for (int how : new int[] {0, 3, -1, FAR_UP, FAR_DOWN}) {
            check.due("how " + how, x.when(0, how), BAD);
        }
        for (int sound : new int[] {-1, 2, 6, FAR_UP, FAR_DOWN}) {
            check.due("sound " + sound, x.when(sound, 1), BAD);
        }
    }

    // ---- promise 21

    /** "that by which MEAL is most behind them": up takes 5 and 6, down 5 and 4. */
    private static void capsHaveMost() {
        MillTalk x = Check.told("m15,5,1;w3;v5,3;v2,9;v0,1;");
        check.due("most", x.caps(2, -1), 12);
        check.due("turns", x.caps(2, -2), 1);
        check.due("first", x.caps(2, 0), 1);
        check.due("second", x.caps(2, 1), 0);
        x.hours(1);
        check.due("with what there is", x.caps(1, -1), 12);
    }

    /** "of several that with the fewest turns": behind 8 hours all come by the mill. */
    private static void capsWithTheFewestTurns() {
        MillTalk x = Check.told("m15,5,1;w3;v5,3;v2,9;v0,1;");
        check.due("most", x.caps(8, -1), 13);
        check.due("no turn", x.caps(8, -2), 0);
        for (int k = 0; k < 8; k++) {
            check.due("up " + k, x.caps(8, k), 1);
        }
    }

    /** "(from the CAP as it is now)" */
    private static void capsFromTheCapAsItIs() {
        MillTalk x = Check.told("m15,5,1;w3;v5,3;v2,9;v0,1;");
        x.cap();
        check.due("most", x.caps(2, -1), 12);
        check.due("a turn more", x.caps(2, -2), 2);
        check.due("up first", x.caps(2, 0), 1);
        check.due("then down", x.caps(2, 1), 0);
        MillTalk y = Check.told("m5,0,0;w2;s4,1;");
        y.cap();
        check.due("nothing is had: no turn", y.caps(3, -2), 0);
        check.due("so it stays down", y.caps(3, 0), 0);
    }

    /** "of several the first (0 ahead of 1)": down is needed in the third hour alone: 000, 100, 110 turn once. */
    private static void capsOfSeveralTheFirst() {
        MillTalk x = Check.told("m15,5,1;w3;v1,7;");
        check.due("most", x.caps(3, -1), 7);
        check.due("one turn", x.caps(3, -2), 1);
        for (int k = 0; k < 3; k++) {
            check.due("000 is the first", x.caps(3, k), 0);
        }
        // Up is needed in the third hour alone, and the cap is down: 001, 011, 111.
        MillTalk y = Check.told("m15,9,1;w1;v13,7;");
        y.cap();
        check.due("most", y.caps(3, -1), 7);
        check.due("one turn", y.caps(3, -2), 1);
        check.due("001: first", y.caps(3, 0), 0);
        check.due("001: second", y.caps(3, 1), 0);
        check.due("001: third", y.caps(3, 2), 1);
    }

    /** "for n HOURS (1 to 8)" */
    private static void capsFor1And8() {
        MillTalk x = Check.told("m15,9,0;w3;v1,7;v8,2;");
        check.due("1", x.caps(1, -1), 2);
        check.due("7", x.caps(7, -1), 2);
        check.due("8", x.caps(8, -1), 9);
        for (int n : new int[] {0, -1, 9, FAR_UP, FAR_DOWN}) {
            check.due("caps for " + n, x.caps(n, -1), BAD);
        }
    }

    /** MEAL is 999 at most: then no row has more than another, and none turns the CAP. */
    private static void capsOfAFullSack() {
        MillTalk x = Check.told("m5,2,1;w3;s2,20;s2,20;s2,20;s2,20;s2,20;s2,20;");
        for (int i = 0; i < 8; i++) {
            x.hours(1);
            for (int s = 0; s < 6; s++) {
                x.loose(s, 2, 20);
            }
        }
        x.hours(1);
        check.due("meal", x.count(4), 999);
        x.loose(0, 1, 20);
        check.due("most", x.caps(2, -1), 999);
        check.due("no turn", x.caps(2, -2), 0);
        check.due("up, as it is", x.caps(2, 0), 1);
        x.sell(1);
        check.due("one more is wanted", x.caps(2, -2), 1);
    }

    /** "the k-th (0 on; NONE: not so many)" */
    private static void theKthCap() {
        MillTalk x = Check.told("m5,0,0;w2;s4,1;");
        for (int n = 1; n <= 8; n++) {
            check.due("the last of " + n, x.caps(n, n - 1), 1);
            check.due("none behind it", x.caps(n, n), NONE);
            check.due("none far up", x.caps(n, FAR_UP), NONE);
        }
    }

    /** "BAD: k below -2, too; STATE: no LEVEL (ahead of BAD)." */
    private static void capsOfNoSuchThing() {
        MillTalk none = new MillTalk();
        check.due("no level", none.caps(1, -1), STATE);
        check.due("no level, n 0", none.caps(0, -1), STATE);
        check.due("no level, k -3", none.caps(1, -3), STATE);
        MillTalk x = Check.told("m5,0,0;w2;s4,1;");
        check.due("k -2", x.caps(1, -2), 0);
        check.due("k -3", x.caps(1, -3), BAD);
        check.due("k far down", x.caps(1, FAR_DOWN), BAD);
        check.due("n 9, k 9", x.caps(9, 9), BAD);
        check.due("n 0, k 0", x.caps(0, 0), BAD);
    }

    // ---- promise 22

    /** "the fewest turns by which all of these are GROUND behind them" */
    private static void hadByTheFewestTurns() {
        MillTalk x = Check.told("m15,5,1;w3;v5,3;v2,9;v9,1;");
        check.due("the first", x.had(1, 2), 0);
        check.due("the second", x.had(2, 2), 1);
        check.due("both", x.had(3, 2), 1);
        check.due("both later", x.had(3, 8), 0);
        x.cap();
        check.due("from down: the first", x.had(1, 2), 1);
        check.due("from down: the second", x.had(2, 2), 0);
        check.due("from down: both", x.had(3, 2), 2);
    }

    /** "(those that are, too)" */
    private static void hadOfThoseThatAre() {
        MillTalk x = Check.told("m15,5,1;w3;v5,3;v2,9;v14,1;");
        x.hours(1);
        check.due("one that is", x.had(1, 1), 0);
        check.due("and another", x.had(3, 1), 1);
        check.due("one that is lost", x.had(4, 8), NONE);
    }

    /** The empty set. */
    private static void hadOfNone() {
        MillTalk x = Check.told("m5,0,0;w2;s4,1;");
        check.due("none", x.had(0, 1), 0);
        x.cap();
        check.due("none, with the cap down", x.had(0, 8), 0);
    }

    private static void hadOfAll() {
        MillTalk x = Check.told("m5,2,0;w3;s2,1;s2,1;s2,1;s2,1;s2,1;s2,1;");
        check.due("all six", x.had(63, 1), 0);
        check.due("more than six", x.had(64, 1), BAD);
    }

    /** "NONE" */
    private static void hadNever() {
        MillTalk x = Check.told("m15,5,1;w3;v5,3;v2,9;v9,1;");
        check.due("it goes by", x.had(4, 8), NONE);
        check.due("all of these", x.had(5, 8), NONE);
        check.due("too soon", x.had(2, 1), NONE);
    }

    private static void hadFor1And8() {
        MillTalk x = Check.told("m15,9,0;w3;v1,7;v8,2;");
        check.due("1", x.had(2, 1), 0);
        check.due("7", x.had(1, 7), NONE);
        check.due("8", x.had(1, 8), 0);
        for (int n : new int[] {0, -1, 9, FAR_UP, FAR_DOWN}) {
            check.due("had for " + n, x.had(1, n), BAD);
        }
    }

    /** "(sounds: a set of SOUNDS that there are, as bits)", "STATE: no LEVEL (ahead of BAD)" */
    private static void hadOfNoSuchThing() {
        MillTalk none = new MillTalk();
        check.due("no level", none.had(0, 1), STATE);
        check.due("no level, a set", none.had(1, 1), STATE);
        check.due("no level, n 0", none.had(0, 0), STATE);
        MillTalk x = Check.told("m15,5,1;w3;v5,3;v2,9;");
        check.due("both", x.had(3, 8), 0);
        for (int set : new int[] {4, 5, 7, 64, -1, FAR_UP, FAR_DOWN}) {
            check.due("set " + set, x.had(set, 1), BAD);
        }
    }

    // ---- promise 23

    /** "the CELL where the mill would have most MEAL behind them": an hour on 5 in cell 3, 6 in 6, 2 in 7. */
    private static void siteHasMost() {
        MillTalk x = Check.told("m9,0,1;w3;v2,5;v5,6;s7,1;");
        check.due("where", x.site(1, 0), 6);
        check.due("how much", x.site(1, 1), 8);
        check.due("5 hours", x.site(5, 1), 5 + 6 + 2);
        check.due("the mill stays", x.stand(1), 0);
        MillTalk y = Check.told("m9,4,1;w3;v3,5;s8,1;");
        y.hours(1);
        check.due("with what there is", y.site(1, 1), 5 + 3);
    }

    /** "the CAP as it is" */
    private static void siteWithTheCapAsItIs() {
        MillTalk x = Check.told("m9,0,1;w3;v2,5;v5,6;s7,1;");
        x.cap();
        check.due("6 and 7 from 7", x.site(1, 0), 7);
        check.due("as much", x.site(1, 1), 8);
    }

    /** "of several the first" */
    private static void siteOfSeveralTheFirst() {
        MillTalk x = Check.told("m9,4,1;w2;v2,5;");
        check.due("nothing anywhere", x.site(3, 0), 0);
        check.due("nothing", x.site(3, 1), 0);
        MillTalk y = Check.told("m9,0,1;w3;s6,1;");
        check.due("from 5 or 6", y.site(1, 0), 5);
    }

    private static void siteInTheLastCell() {
        MillTalk x = Check.told("m15,0,0;w3;s14,1;");
        check.due("the last of 15", x.site(1, 0), 14);
        MillTalk y = Check.told("m5,0,0;w3;s4,1;v1,1;");
        check.due("the last of 5", y.site(1, 0), 4);
    }

    /** "for n HOURS (1 to 30)" */
    private static void siteFor1And30() {
        // The voice comes to 5 in the 6th hour, to 9 in the 30th, where the sea is 7 loud in the 6th.
        MillTalk x = Check.told("m15,14,0;w2;w2;w2;w2;w2;w3;v4,20;s9,1;");
        check.due("1: a calm", x.site(1, 1), 0);
        check.due("5: a calm", x.site(5, 1), 0);
        check.due("6", x.site(6, 0), 5);
        check.due("29", x.site(29, 0), 5);
        check.due("29: the voice", x.site(29, 1), 20);
        check.due("30", x.site(30, 0), 9);
        check.due("30: both", x.site(30, 1), 27);
        for (int n : new int[] {0, -1, 31, FAR_UP, FAR_DOWN}) {
            check.due("site for " + n, x.site(n, 0), BAD);
        }
    }

    private static void siteOfNoSuchThing() {
        MillTalk none = new MillTalk();
        check.due("no level", none.site(1, 0), STATE);
        check.due("no level, n 31", none.site(31, 0), STATE);
        check.due("no level, what 2", none.site(1, 2), STATE);
        MillTalk x = Check.told("m5,0,0;w3;s4,1;");
        for (int what : new int[] {-1, 2, FAR_UP, FAR_DOWN}) {
            check.due("what " + what, x.site(1, what), BAD);
        }
    }

    // ---- promise 24

    /** "how many; SOUNDS (bits) that are in all of these ..; in any": 7 is {2}, {0,1}, {1,4}, {0,3,4}. */
    private static void sackOfSets() {
        MillTalk x = Check.told("m9,0,1;w3;v1,3;v2,4;v3,7;v8,1;v4,3;");
        check.due("sets of 7", x.sack(7, 0), 4);
        check.due("in all", x.sack(7, 1), 0);
        check.due("in any", x.sack(7, 2), 31);
        check.due("sets of 8", x.sack(8, 0), 3);
        check.due("in all: {2,3}, {0,1,3}, {1,3,4}", x.sack(8, 1), 1 << 3);
        check.due("sets of 18", x.sack(18, 0), 1);
        check.due("in it", x.sack(18, 1), 31);
        check.due("of 17: all but the one", x.sack(17, 1), 23);
        check.due("in any of 17", x.sack(17, 2), 23);
    }

    /** v = 0: the empty set alone. */
    private static void sackOfNone() {
        MillTalk x = Check.told("m9,0,1;w3;v1,3;v2,4;");
        check.due("one set", x.sack(0, 0), 1);
        check.due("in all of it", x.sack(0, 1), 0);
        check.due("in any of it", x.sack(0, 2), 0);
    }

    /** "(none: 0)" */
    private static void sackOfNoSet() {
        MillTalk x = Check.told("m9,0,1;w3;v1,3;v2,4;");
        for (int what = 0; what <= 2; what++) {
            check.due("no set of 5", x.sack(5, what), 0);
        }
    }

    /** "sets of SOUNDS that are LOOSE" */
    private static void sackOfThoseThatAreLoose() {
        MillTalk x = Check.told("m9,0,1;w3;v1,3;v8,1;v0,2;");
        check.due("1 is there", x.sack(1, 0), 1);
        x.hours(1);
        check.due("it is lost", x.sack(1, 0), 0);
        check.due("it is ground", x.sack(2, 0), 0);
        check.due("of 3 one, not two", x.sack(3, 0), 1);
        check.due("in it", x.sack(3, 1), 1);
        check.due("of 6 none", x.sack(6, 0), 0);
        x.hours(8);
        check.due("none is loose", x.count(5), 0);
        check.due("the empty set still", x.sack(0, 0), 1);
    }

    /** "SACK of v (0 to 120)" */
    private static void sackOf120() {
        MillTalk x = Check.told("m5,0,0;w2;v0,20;v0,20;v0,20;v0,20;v0,20;v0,20;");
        check.due("120", x.sack(120, 0), 1);
        check.due("in all", x.sack(120, 1), 63);
        check.due("100", x.sack(100, 0), 6);
        check.due("in all of 100", x.sack(100, 1), 0);
        check.due("in any of 100", x.sack(100, 2), 63);
        check.due("119", x.sack(119, 0), 0);
        for (int v : new int[] {-1, 121, FAR_UP, FAR_DOWN}) {
            check.due("sack of " + v, x.sack(v, 0), BAD);
        }
    }

    private static void sackOfNoSuchThing() {
        MillTalk none = new MillTalk();
        check.due("no level", none.sack(0, 0), STATE);
        check.due("no level, v 121", none.sack(121, 0), STATE);
        check.due("no level, what 3", none.sack(0, 3), STATE);
        MillTalk x = Check.told("m5,0,0;w3;s4,1;");
        for (int what : new int[] {-1, 3, FAR_UP, FAR_DOWN}) {
            check.due("what " + what, x.sack(0, what), BAD);
        }
    }

    // ---- promise 25

    /** "as many as n times LOUD by all LOUD of these (cut)" */
    private static void sharesAreCut() {
        MillTalk x = Check.told("m9,8,0;w2;v1,3;v2,3;v3,4;");
        check.due("3 of 10, of 100", x.share(0, 100), 30);
        check.due("4 of 10, of 100", x.share(2, 100), 40);
        check.due("29.7, and one over", x.share(0, 99), 30);
        check.due("39.6", x.share(2, 99), 39);
        check.due("4 of 10, of 9", x.share(2, 9), 3);
    }

    /** "what is over 1 each to the first ones" */
    private static void whatIsOverGoesToTheFirst() {
        MillTalk x = Check.told("m9,8,0;w2;v1,1;v2,1;v3,1;v4,1;");
        for (int over = 0; over < 4; over++) {
            for (int s = 0; s < 4; s++) {
                check.due("of " + (8 + over) + " " + s, x.share(s, 8 + over), s < over ? 3 : 2);
            }
        }
    }

    /** "each SOUND that is LOOSE gets ..": "(0, if it is not LOOSE)" */
    private static void sharesOfThoseThatAreLoose() {
        MillTalk x = Check.told("m9,8,0;w1;v0,9;v1,3;v2,3;v3,4;");
        x.hours(1);
        check.due("lost", x.share(0, 99), 0);
        check.due("what is over goes to loose ones", x.share(1, 99), 30);
        check.due("the second", x.share(2, 99), 30);
        check.due("the third", x.share(3, 99), 39);
        x.hours(3);
        check.due("none is loose", x.count(5), 0);
        for (int s = 0; s < 4; s++) {
            check.due("nobody's share " + s, x.share(s, 999), 0);
        }
    }

    /** "SHARE of n (0 to 999)" */
    private static void sharesOf0And999() {
        MillTalk x = Check.told("m9,8,0;w2;v1,3;v2,3;v3,4;");
        check.due("of 0", x.share(0, 0), 0);
        check.due("of 1 the first", x.share(0, 1), 1);
        check.due("of 1 the second", x.share(1, 1), 0);
        check.due("999: 299.7 and one over", x.share(0, 999), 300);
        check.due("999: 399.6", x.share(2, 999), 399);
        check.due("999 to one", Check.told("m5,0,0;w2;v0,20;").share(0, 999), 999);
        check.due("999 to one, 1 loud", Check.told("m5,0,0;w2;v0,1;").share(0, 999), 999);
        MillTalk six = Check.told("m5,0,0;w2;v0,20;v0,20;v0,20;v0,20;v0,20;v0,1;");
        check.due("999 by 101: 197.8 and one over", six.share(0, 999), 198);
        check.due("197.8 and one over", six.share(4, 999), 198);
        check.due("9.9", six.share(5, 999), 9);
        for (int n : new int[] {-1, 1000, FAR_UP, FAR_DOWN}) {
            check.due("share of " + n, x.share(0, n), BAD);
        }
    }

    private static void sharesOfNoSuchThing() {
        check.due("no level", new MillTalk().share(0, 0), BAD);
        MillTalk x = Check.told("m9,8,0;w2;v1,3;v2,3;");
        for (int sound : new int[] {-1, 2, 6, FAR_UP, FAR_DOWN}) {
            check.due("sound " + sound, x.share(sound, 1), BAD);
        }
    }

    // ---- promise 26

    /** n = 0: "then m HOURS: MEAL" */
    private static void turnsOfNone() {
        MillTalk x = Check.told("m9,4,1;w3;v3,7;v2,8;");
        check.due("an hour", x.byTurns(0, 1), 7);
        check.due("two hours", x.byTurns(0, 2), 15);
        x.hours(1);
        check.due("with what there is", x.byTurns(0, 1), 15);
    }

    /** "the miller turns the CAP, or does nothing" */
    private static void theMillerBegins() {
        MillTalk x = Check.told("m9,4,1;w3;v3,7;v2,8;");
        check.due("down he has both", x.byTurns(1, 1), 15);
        x.cap();
        check.due("he leaves it down", x.byTurns(1, 1), 15);
    }

    /** "then the quarter turns the WIND of this HOUR .., or does nothing" */
    private static void thenTheQuarter() {
        MillTalk x = Check.told("m9,4,0;w3;v3,7;v5,2;");
        check.due("it turns the wind", x.byTurns(2, 1), 2);
        MillTalk y = Check.told("m9,4,0;w3;v3,2;v5,7;");
        check.due("it does nothing", y.byTurns(2, 1), 2);
    }

    /** "and so on, all now": the voice comes to 5, or to 3; the mill takes 5 with the cap up, 3 with it down. */
    private static void turnsOfFour() {
        MillTalk x = Check.told("m9,4,1;w3;v4,7;");
        check.due("1: he leaves it", x.byTurns(1, 1), 7);
        check.due("2: it turns the wind", x.byTurns(2, 1), 0);
        check.due("3: he turns behind it", x.byTurns(3, 1), 7);
        check.due("4: it has the last word", x.byTurns(4, 1), 0);
    }

    /** "the WIND of this HOUR (4 less what it is, from then on)" */
    private static void theWindOfThisHourTurns() {
        // The winds of the hours 1, 3, .. are turned; the voice goes up and down by turns.
        MillTalk x = Check.told("m9,4,0;w3;w3;v1,7;");
        x.hours(1);
        check.due("turned", x.byTurns(2, 20), 0);
        check.due("not turned", x.byTurns(1, 20), 7);
        check.due("nothing changes", x.gust(0), 3);
        // Turned from 4 to 0 it blows two down each hour, from then on.
        MillTalk y = Check.told("m15,8,0;w4;v4,7;");
        check.due("up", y.byTurns(0, 2), 7);
        check.due("two down", y.byTurns(2, 2), 0);
        MillTalk z = Check.told("m15,8,0;w4;v12,7;v4,1;");
        check.due("either way one", z.byTurns(2, 2), 1);
        check.due("0 becomes 4", Check.told("m15,8,0;w0;v12,7;v4,1;").byTurns(2, 2), 1);
    }

    private static void aCalmCannotBeTurned() {
        MillTalk x = Check.told("m9,4,0;w2;w3;v3,7;");
        check.due("it stays a calm", x.byTurns(2, 2), 7);
        check.due("with 4", x.byTurns(4, 2), 7);
    }

    /** "n in all (0 to 4), m HOURS (1 to 20)" */
    private static void turnsFor1And20() {
        // The voice comes to cell 14 in the 20th hour, up all the way.
        MillTalk x = Check.told("m15,14,0;w2;w3;v4,5;");
        check.due("1", x.byTurns(0, 1), 0);
        check.due("19", x.byTurns(0, 19), 0);
        check.due("20", x.byTurns(0, 20), 5);
        check.due("n 4", x.byTurns(4, 20), 5);
        for (int m : new int[] {0, -1, 21, FAR_UP, FAR_DOWN}) {
            check.due("for " + m, x.byTurns(0, m), BAD);
        }
        for (int n : new int[] {-1, 5, FAR_UP, FAR_DOWN}) {
            check.due("turns " + n, x.byTurns(n, 1), BAD);
        }
    }

    /** "BAD; STATE: no LEVEL (ahead of BAD)." */
    private static void turnsOfNoSuchThing() {
        MillTalk none = new MillTalk();
        check.due("no level", none.byTurns(0, 1), STATE);
        check.due("no level, n -1", none.byTurns(-1, 1), STATE);
        check.due("no level, m 21", none.byTurns(0, 21), STATE);
    }

    // ---- all of them

    /** HOURS end at 999 for what is done; what is foretold goes on. From HOUR 999 on the winds are 3, 2 by turns. */
    private static void foretoldBeyondTheLastHour() {
        MillTalk x = Check.told("m15,14,0;w2;w2;v4,5;s14,20;");
        for (int i = 0; i < 41; i++) {
            x.hours(24);
        }
        x.hours(15);
        x.wind(1, 3);
        check.due("the test's own hour", x.count(3), 999);
        check.due("gust", x.gust(59), 2);
        check.due("the last gust", x.gust(60), 3);
        check.due("cell", x.ahead(0, 18, 0), 13);
        check.due("ground", x.ahead(0, 19, 1), 1);
        check.due("when", x.when(0, 1), 19);
        check.due("the sea", x.meal(1), 20);
        check.due("both", x.meal(19), 25);
        check.due("caps", x.caps(8, -1), 20);
        check.due("had", x.had(2, 1), 0);
        check.due("had never", x.had(1, 8), NONE);
        check.due("site", x.site(30, 1), 25);
        check.due("turns", x.byTurns(0, 19), 25);
        check.due("the quarter turns the wind", x.byTurns(2, 20), 20);
        Check.fill(x, 0, 5, 5, 6);
        check.due("kinds", x.who(0, 0, 0, 0, 3), 1 << 1);
        check.due("gusts", x.gusts(1, 0, 0, 0, 3), 1 << 3);
        check.due("gusts of the calm", x.gusts(0, 0, 0, 0, 3), 1 << 2);
        check.due("calm, above", x.calm(0, 19, 5, 0), 1);
        check.due("calm, below", x.calm(0, 19, 5, 1), 2);
        MillTalk y = Check.told("m15,14,0;w2;w3;v4,5;s14,20;");
        y.hours(1);
        for (int seed = 1; seed <= 5; seed++) {
            check.due("drawn as in hour 1", x.drawn(60, seed, 0), y.drawn(60, seed, 0));
        }
        check.due("the hour stays", x.count(3), 999);
    }
}
