/** Promises 18 to 26, 29 and 30: what is foretold, sought, shared, played, drawn. */
public final class ForetoldTest {
    private static final int BAD = MillTalk.BAD, STATE = MillTalk.STATE, NONE = MillTalk.NONE;
    private static final Check check = new Check();

    public static void main(String[] args) {
        noLevel();
        ahead();
        meal();
        when();
        caps();
        had();
        site();
        sack();
        share();
        byTurns();
        calm();
        drawn();
        nothingChanges();
        check.end();
    }

    private static void noLevel() {
        MillTalk x = new MillTalk();
        check.due("ahead", x.ahead(0, 0, 0), BAD);
        check.due("meal 99", x.meal(99), STATE);
        check.due("when", x.when(0, 1), BAD);
        check.due("caps 0", x.caps(0, -3), STATE);
        check.due("had -1", x.had(-1, 0), STATE);
        check.due("site 0", x.site(0, 9), STATE);
        check.due("sack -1", x.sack(-1, 9), STATE);
        check.due("share", x.share(0, 0), BAD);
        check.due("byTurns -1", x.byTurns(-1, 0), STATE);
        check.due("calm", x.calm(0, 0, 0, 0), BAD);
        check.due("drawn", x.drawn(-1, 0, 9), STATE);
    }

    private static void ahead() {
        MillTalk x = Check.told("m9,7,1;w3;v3,5;d6,2;v0,4;");
        int[] cells = {3, 4, 5, 6, NONE, NONE};
        for (int n = 0; n < cells.length; n++) {
            check.due("cell " + n, x.ahead(0, n, 0), cells[n]);
            check.due("how " + n, x.ahead(0, n, 1), n < 4 ? 0 : 1);
            check.due("loud " + n, x.ahead(0, n, 2), 5);
        }
        check.due("Dutch, an hour", x.ahead(1, 1, 0), 5);
        check.due("less loud", x.ahead(1, 1, 2), 1);
        check.due("lost", x.ahead(1, 2, 1), 2);
        check.due("as ahead of it", x.ahead(1, 60, 2), 1);
        check.due("61", x.ahead(0, 61, 0), BAD);
        check.due("-1", x.ahead(0, -1, 0), BAD);
        check.due("what 3", x.ahead(0, 0, 3), BAD);
        check.due("what -1", x.ahead(0, 0, -1), BAD);
        check.due("sound 3", x.ahead(3, 0, 0), BAD);
    }

    private static void meal() {
        MillTalk x = Check.told("m9,7,1;w3;v3,5;d6,2;v0,4;");
        int[] meals = {0, 0, 0, 0, 5, 5, 5, 9};
        for (int n = 0; n < meals.length; n++) {
            check.due("meal " + n, x.meal(n), meals[n]);
        }
        x.hours(4);
        check.due("with what there is", x.meal(3), 9);
        check.due("now", x.meal(0), 5);
        check.due("61", x.meal(61), BAD);
        check.due("-1", x.meal(-1), BAD);
    }

    private static void when() {
        MillTalk x = Check.told("m9,7,1;w3;v3,5;d6,2;v0,4;s0,1;");
        check.due("ground", x.when(0, 1), 4);
        check.due("never lost", x.when(0, 2), NONE);
        check.due("lost", x.when(1, 2), 2);
        check.due("the sea stays", x.when(3, 1) + x.when(3, 2), NONE + NONE);
        x.hours(7);
        check.due("is", x.when(0, 1), 0);
        check.due("is lost", x.when(1, 2), 0);
        check.due("how 0", x.when(0, 0), BAD);
        check.due("how 3", x.when(0, 3), BAD);
        check.due("sound 4", x.when(4, 1), BAD);
        MillTalk y = Check.told("m15,14,0;w3;w2;w2;w2;w2;w2;v4,1;v3,2;");
        check.due("a cell each 6 hours", y.when(0, 1), 55);
        check.due("beyond 60", y.when(1, 1), NONE);
        MillTalk z = Check.told("m15,14,0;w2;w2;w2;w2;w2;w3;v4,1;v3,2;");
        check.due("in the 60th", z.when(0, 1), 60);
        check.due("in the 66th", z.when(1, 1), NONE);
    }

    private static void caps() {
        // Up: cell 5 and 6; down: 5 and 4. The voices come at 6 in hour 0, at 4 in hour 1 from below.
        MillTalk x = Check.told("m15,5,1;w3;v5,3;v2,9;v0,1;");
        check.due("most", x.caps(2, -1), 12);
        check.due("turns", x.caps(2, -2), 1);
        check.due("first", x.caps(2, 0), 1);
        check.due("second", x.caps(2, 1), 0);
        check.due("third", x.caps(2, 2), NONE);
        check.due("1 hour", x.caps(1, -1), 3);
        check.due("all behind 8", x.caps(8, -1), 13);
        check.due("no turn for them", x.caps(8, -2), 0);
        x.cap();
        check.due("from the cap as it is", x.caps(2, -2), 2);
        check.due("still up first", x.caps(2, 0), 1);
        check.due("n 0", x.caps(0, -1), BAD);
        check.due("n 9", x.caps(9, -1), BAD);
        check.due("k -3", x.caps(2, -3), BAD);
        check.due("k -3 with n 9", x.caps(9, 100), BAD);
        firstOfSeveral();
    }

    /** Down is needed in the third of three hours alone: 000, 100 and 110 do with one turn. */
    private static void firstOfSeveral() {
        MillTalk x = Check.told("m15,5,1;w3;v1,7;");
        check.due("most", x.caps(3, -1), 7);
        check.due("one turn", x.caps(3, -2), 1);
        for (int k = 0; k < 3; k++) {
            check.due("000 is the first", x.caps(3, k), 0);
        }
        x.hours(4);
        check.due("with what there is", x.caps(3, -1), 7);
        check.due("none is better", x.caps(3, -2), 0);
        check.due("so it stays", x.caps(3, 0), 1);
    }

    private static void had() {
        MillTalk x = Check.told("m15,5,1;w3;v5,3;v2,9;v9,1;");
        check.due("the first", x.had(1, 2), 0);
        check.due("the second", x.had(2, 2), 1);
        check.due("both", x.had(3, 2), 1);
        check.due("both later", x.had(3, 8), 0);
        check.due("never", x.had(4, 8), NONE);
        check.due("none are", x.had(0, 1), 0);
        check.due("too soon", x.had(2, 1), NONE);
        x.hours(1);
        check.due("that is ground", x.had(1, 1), 0);
        check.due("and the other", x.had(3, 1), 1);
        check.due("a set beyond", x.had(8, 1), BAD);
        check.due("a set below", x.had(-1, 1), BAD);
        check.due("n 0", x.had(1, 0), BAD);
        check.due("n 9", x.had(1, 9), BAD);
    }

    private static void site() {
        MillTalk x = Check.told("m9,0,1;w3;v2,5;v5,6;s7,1;");
        // An hour on: 5 in cell 3, 6 in cell 6, 2 in cell 7; up with reach 1.
        check.due("where", x.site(1, 0), 6);
        check.due("how much", x.site(1, 1), 8);
        check.due("two hours", x.site(2, 0), 6);
        check.due("5 hours", x.site(5, 1), 5 + 6 + 2);
        check.due("the mill stays", x.stand(1), 0);
        x.cap();
        check.due("down: 6 and 7 from 7", x.site(1, 0), 7);
        MillTalk y = Check.told("m9,4,1;w2;v2,5;");
        check.due("of several the first", y.site(3, 0), 0);
        check.due("nothing", y.site(3, 1), 0);
        check.due("n 0", y.site(0, 0), BAD);
        check.due("n 31", y.site(31, 0), BAD);
        check.due("n 30", y.site(30, 0), 0);
        check.due("what 2", y.site(1, 2), BAD);
        check.due("what -1", y.site(1, -1), BAD);
    }

    private static void sack() {
        MillTalk x = Check.told("m9,0,1;w3;v1,3;v2,4;v3,7;v8,1;v4,3;");
        // 7: {2}, {0,1}, {1,4}, {0,3,4}.
        check.due("sets of 7", x.sack(7, 0), 4);
        check.due("in all", x.sack(7, 1), 0);
        check.due("in any", x.sack(7, 2), 31);
        check.due("sets of 4", x.sack(4, 0), 3);
        check.due("sets of 18", x.sack(18, 0), 1);
        check.due("in it", x.sack(18, 1), 31);
        check.due("of 17: all but the one", x.sack(17, 1), 23);
        check.due("no set of 19", x.sack(19, 0) + x.sack(19, 1) + x.sack(19, 2), 0);
        check.due("the empty one", x.sack(0, 0), 1);
        check.due("in all of it", x.sack(0, 1), 0);
        check.due("in any of it", x.sack(0, 2), 0);
        x.hours(1);
        check.due("one is lost", x.sack(1, 0), 0);
        check.due("120", x.sack(120, 0), 0);
        check.due("121", x.sack(121, 0), BAD);
        check.due("-1", x.sack(-1, 0), BAD);
        check.due("what 3", x.sack(0, 3), BAD);
        check.due("what -1", x.sack(0, -1), BAD);
    }

    private static void share() {
        MillTalk x = Check.told("m9,8,0;w1;v0,9;v1,3;v2,3;v3,4;");
        x.hours(1);
        // 3, 3 and 4 of 10 are loose: of 99 29, 29 and 39, with 2 over.
        check.due("lost", x.share(0, 99), 0);
        check.due("1", x.share(1, 99), 30);
        check.due("2", x.share(2, 99), 30);
        check.due("3", x.share(3, 99), 39);
        check.due("of none", x.share(3, 0), 0);
        check.due("of 1 the first", x.share(1, 1), 1);
        check.due("of 1 the second", x.share(2, 1), 0);
        check.due("999", x.share(3, 999), 399);
        check.due("1000", x.share(3, 1000), BAD);
        check.due("-1", x.share(3, -1), BAD);
        check.due("sound 4", x.share(4, 1), BAD);
    }

    private static void byTurns() {
        // Up it comes to the mill's cell and beyond; the other way it never does.
        MillTalk x = Check.told("m9,4,0;w3;v3,7;v5,2;");
        check.due("none turns", x.byTurns(0, 1), 7);
        check.due("the miller alone", x.byTurns(1, 1), 7);
        check.due("the quarter turns the wind", x.byTurns(2, 1), 2);
        check.due("with 4", x.byTurns(4, 1), 2);
        MillTalk y = Check.told("m9,4,1;w3;v3,7;v2,8;");
        check.due("up: 7; down: 15", y.byTurns(1, 1), 15);
        check.due("no turn", y.byTurns(0, 1), 7);
        check.due("turned back: neither", y.byTurns(2, 1), 0);
        check.due("with what there is", y.hours(1) + y.byTurns(0, 1), 7 + 15);
        check.due("n -1", y.byTurns(-1, 1), BAD);
        check.due("n 5", y.byTurns(5, 1), BAD);
        check.due("m 0", y.byTurns(0, 0), BAD);
        check.due("m 21", y.byTurns(0, 21), BAD);
        MillTalk z = Check.told("m9,4,0;w3;w3;v2,7;");
        z.hours(1);
        check.due("the wind of this hour is turned", z.byTurns(2, 1), 0);
        check.due("and not the other", z.byTurns(2, 20), 0);
        check.due("the other is as it is told", z.gust(1), 3);
    }

    private static void fraction(MillTalk x, int sound, int n, int p, long above, long below) {
        check.due("calm " + n + " " + p + " above", x.calm(sound, n, p, 0), above);
        check.due("calm " + n + " " + p + " below", x.calm(sound, n, p, 1), below);
    }

    private static void calm() {
        MillTalk x = Check.told("m9,4,0;w3;w4;v3,7;v1,5;");
        fraction(x, 0, 0, 5, 0, 1);
        fraction(x, 0, 1, 0, 1, 1);
        fraction(x, 0, 1, 10, 0, 1);
        fraction(x, 0, 1, 3, 7, 10);
        // From 1: 2, then 4: both blow. One each: 2, 3, 4 by the first alone, behind 5 hours.
        fraction(x, 1, 2, 5, 1, 4);
        fraction(x, 1, 4, 2, 16, 25);
        fraction(x, 1, 5, 2, 4, 5);
        x.hours(1);
        fraction(x, 0, 0, 10, 1, 1);
        check.due("p 11", x.calm(0, 0, 11, 0), BAD);
        check.due("p -1", x.calm(0, 0, -1, 0), BAD);
        check.due("n 61", x.calm(0, 61, 0, 0), BAD);
        check.due("n -1", x.calm(0, -1, 0, 0), BAD);
        check.due("what 2", x.calm(0, 0, 0, 2), BAD);
        check.due("what -1", x.calm(0, 0, 0, -1), BAD);
        check.due("sound 2", x.calm(2, 0, 0, 0), BAD);
        MillTalk six = Check.told("m15,6,0;w3;w3;w3;w3;w3;w3;v0,1;");
        fraction(six, 0, 6, 1, 531441, 1000000);
        fraction(six, 0, 6, 9, 1, 1000000);
    }

    private static void drawn() {
        MillTalk x = Check.told("m5,0,4;w3;v4,9;");
        check.due("none", x.drawn(0, 1, 0), 0);
        // X = 16807: by 3 leaves 1, by 2 leaves 1: the cap is up; the voice drifts beyond 4.
        check.due("lost", x.drawn(1, 1, 1), 1);
        check.due("meal", x.drawn(1, 1, 0), 0);
        // X = 282475249: by 3 leaves 1, by 2 1; let loose in cell 4, 282475249 by 9 leaves 1: 2 loud; lost again.
        check.due("lost again", x.drawn(2, 1, 1), 1);
        // X = 33614 (seed 2): by 3 leaves 2, by 2 0: the cap is down.
        check.due("seed 2", x.drawn(1, 2, 1), 1);
        // X = 50421 (seed 3): by 3 leaves 0: wind 0 is 1, the cap is up: the voice comes to 3 and is ground.
        check.due("seed 3", x.drawn(1, 3, 0), 9);
        check.due("none lost", x.drawn(1, 3, 1), 0);
        x.wind(0, 1);
        x.hours(1);
        check.due("meal there is", x.count(4), 9);
        // X = 16807: let loose in cell 2, 5 loud; down to 1, ground.
        check.due("meal of these hours alone", x.drawn(1, 1, 0), 5);
        check.due("n 61", x.drawn(61, 1, 0), BAD);
        check.due("n -1", x.drawn(-1, 1, 0), BAD);
        check.due("n 60, the last seed", x.drawn(60, 999999, 1) >= 0 ? 1 : 0, 1);
        check.due("seed 0", x.drawn(1, 0, 0), BAD);
        check.due("seed 1000000", x.drawn(1, 1000000, 0), BAD);
        check.due("what 2", x.drawn(1, 1, 2), BAD);
        check.due("what -1", x.drawn(1, 1, -1), BAD);
    }

    private static String all(MillTalk x) {
        StringBuilder all = new StringBuilder();
        for (int what = 0; what < 8; what++) {
            all.append(x.count(what)).append(' ').append(x.stand(what)).append(' ').append(x.gust(what)).append(' ');
        }
        for (int s = 0; s < 6; s++) {
            for (int what = 0; what < 4; what++) {
                all.append(x.sound(s, what)).append(' ');
            }
        }
        return all.toString();
    }

    private static void nothingChanges() {
        MillTalk x = Check.told("m15,7,2;w3;w0;w4;v5,5;b2,3;h9,8;d11,6;s14,2;v0,1;");
        x.hours(1);
        String before = all(x);
        x.ahead(0, 9, 0);
        x.meal(60);
        x.when(1, 2);
        x.caps(8, -1);
        x.had(1, 8);
        x.site(30, 0);
        x.sack(5, 0);
        x.share(0, 5);
        x.byTurns(4, 20);
        x.calm(0, 60, 5, 0);
        x.drawn(60, 7, 0);
        check.due("all is as it was", all(x).equals(before) ? 1 : 0, 1);
    }
}
