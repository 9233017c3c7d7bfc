/** Terms, part 2: what becomes of sounds in an hour, and what is ground; a test for each sentence. */
public final class HoursTest {
    private static final int NONE = MillTalk.NONE;
    private static final String SORTS = "vbhds";
    /** By how many cells a sound of each sort drifts up in the winds 0 .. 4. */
    private static final int[][] DRIFTS = {{-2, -1, 0, 1, 2}, {-1, 0, 0, 0, 1}, {-4, -2, 0, 2, 4}, {2, 1, 0, -1, -2},
        {0, 0, 0, 0, 0}};
    private static final Check check = new Check();

    public static void main(String[] args) {
        soundsDriftByTheirKinds();
        soundsAreLostBeyondBothEnds();
        dutchIsOneLessLoud();
        dutchWithNoneIsLost();
        theSeaIsOneLouder();
        theSeaIs20LoudAtMost();
        othersAreAsLoudAsTheyWere();
        oneThatIsLostKeepsItsCell();
        oneThatIsLostKeepsItsLoud();
        oneThatIsLostStaysSo();
        reachAndCap();
        reachBeyondTheEnds();
        noGrindingInACalm();
        soundsDriftBeforeTheyAreGround();
        oneThatIsLostIsNotGround();
        oneThatIsGroundIsSoOnce();
        mealIsAsItIsLoudThen();
        mealIs999AtMost();
        hourIsOneMore();
        theWindOfAnHour();
        check.end();
    }

    private static String level(int cells, int mill, int wind, String sounds) {
        return "m" + cells + "," + mill + ",0;w" + wind + ";" + sounds;
    }

    /** "a voice by these; a band by half of them (cut); a hare by twice as many; some Dutch ..; the sea not at all" */
    private static void soundsDriftByTheirKinds() {
        for (int wind = 0; wind <= 4; wind++) {
            MillTalk x = Check.told(level(15, 14, wind, "v6,3;b6,3;h6,3;d6,3;s6,3;"));
            for (int s = 0; s < 5; s++) {
                check.due("would drift " + wind + " " + s, x.sound(s, 3), DRIFTS[s][wind]);
            }
            check.due("an hour", x.hours(1), 0);
            for (int s = 0; s < 5; s++) {
                check.due("cell " + wind + " " + s, x.sound(s, 0), 6 + DRIFTS[s][wind]);
                check.due("loose " + wind + " " + s, x.sound(s, 1), 0);
            }
        }
    }

    /** "One that comes beyond the last CELL, or below 0, is LOST": from every cell, by every wind. */
    private static void soundsAreLostBeyondBothEnds() {
        for (int cells : new int[] {5, 15}) {
            for (int s = 0; s < 5; s++) {
                for (int wind = 0; wind <= 4; wind++) {
                    for (int from = 0; from < cells; from++) {
                        driftFrom(cells, s, wind, from);
                    }
                }
            }
        }
    }

    private static void driftFrom(int cells, int sort, int wind, int from) {
        int to = from + DRIFTS[sort][wind];
        boolean stays = to >= 0 && to < cells;
        int mill = to == 0 ? cells - 1 : 0;
        MillTalk x = Check.told(level(cells, mill, wind, SORTS.charAt(sort) + "" + from + ",5;"));
        x.hours(1);
        String which = cells + " cells, sort " + sort + ", wind " + wind + ", from " + from;
        check.due(which + ": how", x.sound(0, 1), stays ? 0 : 2);
        check.due(which + ": cell", x.sound(0, 0), stays ? to : NONE);
        check.due(which + ": lost", x.stand(6), stays ? 0 : 1);
    }

    /** "LOUD of Dutch is 1 less then", in a calm, too. */
    private static void dutchIsOneLessLoud() {
        for (int wind = 0; wind <= 4; wind++) {
            MillTalk x = Check.told(level(15, 14, wind, "d6,20;d6,2;"));
            x.hours(1);
            check.due("of 20", x.sound(0, 2), 19);
            check.due("of 2", x.sound(1, 2), 1);
            check.due("loose", x.stand(4), 3);
        }
    }

    /** "with 0 it is LOST" */
    private static void dutchWithNoneIsLost() {
        MillTalk x = Check.told(level(15, 14, 2, "d6,1;d6,2;"));
        x.hours(1);
        check.due("1 is lost", x.sound(0, 1), 2);
        check.due("no cell", x.sound(0, 0), NONE);
        check.due("2 is loose", x.sound(1, 1), 0);
        x.hours(1);
        check.due("then it is lost, too", x.sound(1, 1), 2);
        MillTalk y = Check.told(level(15, 6, 3, "d7,1;d7,2;"));
        check.due("in the mill's cell the one is lost, the other ground", y.hours(1), 1);
        check.due("lost", y.stand(6), 1);
        check.due("ground", y.stand(5), 2);
    }

    /** "of the sea 1 more", in a calm, too. */
    private static void theSeaIsOneLouder() {
        for (int wind = 0; wind <= 4; wind++) {
            MillTalk x = Check.told(level(15, 14, wind, "s6,1;"));
            x.hours(1);
            check.due("of 1", x.sound(0, 2), 2);
        }
    }

    /** "(20 at most)" */
    private static void theSeaIs20LoudAtMost() {
        MillTalk x = Check.told(level(15, 14, 3, "s6,18;s6,19;s6,20;"));
        x.hours(1);
        check.due("of 18", x.sound(0, 2), 19);
        check.due("of 19", x.sound(1, 2), 20);
        check.due("of 20", x.sound(2, 2), 20);
        x.hours(24);
        check.due("at last", x.sound(0, 2), 20);
    }

    /** "else as it was" */
    private static void othersAreAsLoudAsTheyWere() {
        for (int wind = 0; wind <= 4; wind++) {
            MillTalk x = Check.told(level(15, 14, wind, "v6,1;b6,1;h6,1;v6,20;b6,20;h6,20;"));
            x.hours(1);
            for (int s = 0; s < 6; s++) {
                check.due("loud " + s, x.sound(s, 2), s < 3 ? 1 : 20);
            }
            check.due("all loose", x.stand(4), 63);
        }
    }

    /** "(One that is LOST keeps CELL .. as they were ahead of that HOUR.)": MARK tells where it was. */
    private static void oneThatIsLostKeepsItsCell() {
        MillTalk x = Check.told(level(9, 0, 4, "v8,3;v7,3;h6,3;h5,3;b8,3;"));
        x.hours(1);
        check.due("all lost", x.stand(6), 31);
        check.due("voice from 8", x.ask(0, 1), 8);
        check.due("voice from 7", x.ask(1, 1), 1 + 7);
        check.due("hare from 6", x.ask(2, 1), 2 + 6 - 1000);
        check.due("hare from 5", x.ask(3, 1), 3 + 5 - 1000);
        check.due("band from 8", x.ask(4, 1), 2 * (4 + 8));
        MillTalk y = Check.told(level(9, 8, 0, "v0,3;v1,3;"));
        y.hours(1);
        check.due("voice from 0", y.ask(0, 1), 0);
        check.due("voice from 1", y.ask(1, 1), 1 + 1);
    }

    /** "(.. keeps .. LOUD as they were ahead of that HOUR.)" */
    private static void oneThatIsLostKeepsItsLoud() {
        MillTalk x = Check.told(level(9, 0, 4, "d1,9;d5,1;d0,1;"));
        x.hours(1);
        check.due("all lost", x.stand(6), 7);
        check.due("below 0", x.sound(0, 2), 9);
        check.due("with 0", x.sound(1, 2), 1);
        check.due("both", x.sound(2, 2), 1);
    }

    private static void oneThatIsLostStaysSo() {
        MillTalk x = Check.told("m9,0,0;w4;w0;v8,3;d0,9;");
        x.hours(6);
        check.due("lost", x.stand(6), 3);
        check.due("its cell", x.ask(0, 1), 8);
        check.due("its loud", x.sound(1, 2), 9);
    }

    /** "in its own CELL, or REACH or fewer CELLS from it, up with the CAP up (1), down with it down (0)" */
    private static void reachAndCap() {
        for (int reach = 0; reach <= 4; reach++) {
            for (int cell = 0; cell < 15; cell++) {
                String text = "m15,7," + reach + ";w3;s" + cell + ",1;";
                boolean up = cell >= 7 && cell <= 7 + reach;
                boolean down = cell <= 7 && cell >= 7 - reach;
                MillTalk x = Check.told(text);
                check.due("up " + text, x.hours(1), up ? 2 : 0);
                check.due("ground " + text, x.stand(5), up ? 1 : 0);
                MillTalk y = Check.told(text);
                y.cap();
                check.due("down " + text, y.hours(1), down ? 2 : 0);
                check.due("ground " + text, y.stand(5), down ? 1 : 0);
            }
        }
    }

    private static void reachBeyondTheEnds() {
        MillTalk x = Check.told("m5,4,4;w3;s4,1;s0,1;");
        check.due("beyond the last cell", x.hours(1), 2);
        check.due("the first cell is not next to the last", x.stand(5), 1);
        MillTalk y = Check.told("m5,0,4;w3;s0,1;s4,1;");
        y.cap();
        check.due("below 0", y.hours(1), 2);
        check.due("nor the last next to the first", y.stand(5), 1);
    }

    /** "if it is no calm" */
    private static void noGrindingInACalm() {
        for (int wind = 0; wind <= 4; wind++) {
            MillTalk x = Check.told("m15,7,4;w" + wind + ";s7,4;");
            check.due("wind " + wind, x.hours(1), wind == 2 ? 0 : 5);
        }
    }

    /** "Then .. the mill grinds": where it has come, not where it was. */
    private static void soundsDriftBeforeTheyAreGround() {
        MillTalk x = Check.told(level(15, 7, 3, "v6,1;v7,2;v8,4;"));
        check.due("the one that comes", x.hours(1), 1);
        check.due("it had no cell then", x.sound(0, 0), NONE);
        check.due("it was ground there", x.ask(0, 1), 7);
        check.due("the one that was there is gone", x.sound(1, 0), 8);
    }

    /** "each that is LOOSE": the mill stands in the cell that one which is lost keeps. */
    private static void oneThatIsLostIsNotGround() {
        MillTalk x = Check.told(level(5, 4, 3, "v4,9;"));
        check.due("lost in that hour", x.hours(1), 0);
        check.due("and later", x.hours(3), 0);
        check.due("lost", x.sound(0, 1), 2);
    }

    private static void oneThatIsGroundIsSoOnce() {
        MillTalk x = Check.told(level(5, 4, 3, "s4,9;"));
        check.due("ground", x.hours(1), 10);
        check.due("once", x.hours(3), 10);
        check.due("and no louder", x.sound(0, 2), 10);
    }

    /** "it is GROUND, MEAL is so much more as it is LOUD" */
    private static void mealIsAsItIsLoudThen() {
        check.due("voice", Check.told(level(15, 7, 3, "v6,5;")).hours(1), 5);
        check.due("Dutch", Check.told(level(15, 7, 3, "d8,5;")).hours(1), 4);
        check.due("sea", Check.told(level(15, 7, 3, "s7,5;")).hours(1), 6);
        check.due("a full sea", Check.told(level(15, 7, 3, "s7,20;")).hours(1), 20);
        check.due("all together", Check.told(level(15, 7, 3, "v6,5;d8,5;s7,5;")).hours(1), 15);
    }

    /** "(999 at most)" */
    private static void mealIs999AtMost() {
        MillTalk x = Check.told("m5,0,4;w3;s0,19;s1,19;s2,19;s3,19;s4,19;s0,19;");
        for (int i = 1; i <= 8; i++) {
            check.due("meal", x.hours(1), 120 * i);
            for (int s = 0; s < 6; s++) {
                x.loose(s, s % 5, 20);
            }
        }
        check.due("foretold", x.meal(1), 999);
        check.due("1080 would be", x.hours(1), 999);
        x.loose(0, 0, 20);
        check.due("and stays", x.hours(1), 999);
        check.due("sold", x.sell(4), 995);
        x.loose(0, 0, 3);
        check.due("just 999", x.hours(1), 999);
        x.sell(4);
        x.loose(0, 0, 4);
        check.due("1000 would be", x.hours(1), 999);
        check.due("ground all the same", x.sound(0, 1), 1);
        x.sell(4);
        x.loose(0, 0, 2);
        check.due("998 is as it is", x.hours(1), 998);
    }

    /** "HOUR is 1 more.": in a calm, too. */
    private static void hourIsOneMore() {
        MillTalk x = Check.told("m5,0,0;w2;w3;s4,1;");
        for (int hour = 1; hour <= 5; hour++) {
            x.hours(1);
            check.due("hour", x.count(3), hour);
        }
    }

    /** "that of an HOUR is that of the HOUR by how many there are left over" */
    private static void theWindOfAnHour() {
        MillTalk x = Check.told("m15,14,0;w3;w0;w4;v5,1;");
        int[] cells = {6, 4, 6, 7, 5, 7, 8};
        for (int hour = 0; hour < cells.length; hour++) {
            x.hours(1);
            check.due("cell behind hour " + hour, x.sound(0, 0), cells[hour]);
        }
        MillTalk one = Check.told("m15,14,0;w3;v5,1;");
        one.hours(4);
        check.due("one wind for all hours", one.sound(0, 0), 9);
        MillTalk six = Check.told("m15,14,0;w2;w2;w2;w2;w2;w3;v5,1;");
        six.hours(5);
        check.due("the sixth has not blown", six.sound(0, 0), 5);
        six.hours(1);
        check.due("now it has", six.sound(0, 0), 6);
        six.hours(6);
        check.due("and again", six.sound(0, 0), 7);
    }
}
