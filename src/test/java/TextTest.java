/** Terms, part 1 (TEXTS, FAULTS), and promises 6 to 8: a test for each sentence. */
public final class TextTest {
    private static final String TEXT = "m11,5,2;w3;w4;v2,6;d8,14;";
    /** Where a TOKEN of TEXT begins: all places but the second figures. */
    private static final int[] TOKENS = {0, 1, 3, 4, 5, 6, 7, 8, 9, 10, 11, 12, 13, 14, 15, 16, 17, 18, 19, 20, 21, 22, 24};
    private static final String SIX_WINDS = "w0;w1;w2;w3;w4;w0;", SIX_SOUNDS = "v0,1;b1,2;h2,3;d3,4;s4,5;v0,6;";
    private static final Check check = new Check();

    public static void main(String[] args) {
        bytesAre0To255();
        theTapeHas120Bytes();
        aByteThatIsBadComesNot();
        badIsToldAheadOfFull();
        aTextIsRead();
        aNumberHasTwoFiguresAtMost();
        threeFiguresAreNoToken();
        otherBytesAreNoTokens();
        capitalsAreNoTokens();
        lettersThatCannotStandThere();
        signsThatCannotStandThere();
        numbersThatCannotStandThere();
        theEndIsAtSoManyBytes();
        aTextWithoutWindOrSound();
        nothingComesBehindTheSounds();
        cellsAre5To15();
        theMillStandsInACell();
        reachIs0To4();
        windsAre0To4();
        aSoundBeginsInACell();
        loudIs1To20();
        sixWindsAtMost();
        sixSoundsAtMost();
        ofOneTokenTheLeastFault();
        theFirstTokenThatHasAFault();
        theTapeIsEmptyThen();
        aFaultLeavesAll();
        theLatestFault();
        aLevelStandsInPlaceOfTheOneBefore();
        aLevelLeavesTheRest();
        sortsOfSounds();
        check.end();
    }

    private static void fault(String text, int place, int number) {
        MillTalk x = new MillTalk();
        check.due("level " + text, Check.tell(x, text), -1000100 - place);
        check.due("fault " + text, x.fault(), number);
        check.due("no level " + text, x.stand(0), MillTalk.STATE);
    }

    private static void good(String text, int sounds) {
        MillTalk x = new MillTalk();
        check.due("level " + text, Check.tell(x, text), sounds);
        check.due("no fault " + text, x.fault(), 0);
        check.due("sounds " + text, x.count(1), sounds);
    }

    private static String with(int place, char sign) {
        return TEXT.substring(0, place) + sign + TEXT.substring(place + 1);
    }

    /** "A byte (0 to 255) comes behind the tape: how many it has. BAD" */
    private static void bytesAre0To255() {
        MillTalk x = new MillTalk();
        check.due("byte 0", x.feed(0), 1);
        check.due("byte 255", x.feed(255), 2);
        for (int letter : new int[] {-1, 256, Integer.MAX_VALUE, Integer.MIN_VALUE, 'm' + 256}) {
            check.due("no byte " + letter, x.feed(letter), MillTalk.BAD);
        }
        check.due("bytes", x.count(7), 2);
    }

    /** "THE TAPE has at most 120 bytes", "FULL" */
    private static void theTapeHas120Bytes() {
        MillTalk x = new MillTalk();
        String text = "m5,0,0;" + SIX_WINDS + SIX_SOUNDS + "v";
        for (int i = 0; i < 120; i++) {
            check.due("byte " + i, x.feed(text.charAt(Math.min(i, text.length() - 1))), i + 1);
        }
        check.due("one more", x.feed('v'), MillTalk.FULL);
        check.due("and one more", x.feed('m'), MillTalk.FULL);
        check.due("bytes", x.count(7), 120);
        check.due("read", x.level(), -1000100 - 55);
        check.due("from the first on", x.feed('m'), 1);
    }

    /** "What is refused changes nothing" */
    private static void aByteThatIsBadComesNot() {
        MillTalk x = new MillTalk();
        for (int i = 0; i < TEXT.length(); i++) {
            x.feed(-1);
            x.feed(TEXT.charAt(i));
            x.feed(TEXT.charAt(i) + 256);
        }
        check.due("the text without them", x.level(), 2);
    }

    /** "the first of these that fits: BAD .., STATE .., FULL" */
    private static void badIsToldAheadOfFull() {
        MillTalk x = new MillTalk();
        for (int i = 0; i < 120; i++) {
            x.feed('m');
        }
        check.due("256 on a full tape", x.feed(256), MillTalk.BAD);
        check.due("-1 on a full tape", x.feed(-1), MillTalk.BAD);
    }

    /** "The tape .. is read: how many SOUNDS there are." */
    private static void aTextIsRead() {
        MillTalk x = Check.told(TEXT);
        int[] stands = {11, 5, 2, 1, 3, 0, 0};
        for (int what = 0; what < stands.length; what++) {
            check.due("stand " + what, x.stand(what), stands[what]);
        }
        check.due("winds", x.count(2), 2);
        check.due("wind 0", x.gust(0), 3);
        check.due("wind 1", x.gust(1), 4);
        check.due("voice", x.kind(0), 1);
        check.due("its cell", x.sound(0, 0), 2);
        check.due("its loud", x.sound(0, 2), 6);
        check.due("Dutch", x.kind(1), 4);
        check.due("its cell", x.sound(1, 0), 8);
        check.due("its loud", x.sound(1, 2), 14);
    }

    /** "NUMBERS (figures, 2 at most)" */
    private static void aNumberHasTwoFiguresAtMost() {
        good("m05,04,00;w04;w02;s00,01;h04,20;", 2);
        MillTalk x = Check.told("m05,04,03;w01;s02,06;");
        check.due("cells 05", x.stand(0), 5);
        check.due("mill 04", x.stand(1), 4);
        check.due("reach 03", x.stand(2), 3);
        check.due("wind 01", x.gust(0), 1);
        check.due("cell 02", x.sound(0, 0), 2);
        check.due("loud 06", x.sound(0, 2), 6);
    }

    /** "1 it .. is none (a run of three figures, at its first ..)" */
    private static void threeFiguresAreNoToken() {
        fault("m011,5,2;w3;v2,6;", 1, 1);
        fault("m11,005,2;w3;v2,6;", 4, 1);
        fault("m11,5,002;w3;v2,6;", 6, 1);
        fault("m11,5,2;w003;v2,6;", 9, 1);
        fault("m11,5,2;w3;v002,6;", 12, 1);
        fault("m11,5,2;w3;v2,006;", 14, 1);
        fault("m000", 1, 1);
        fault("m1111111111", 1, 1);
        fault("m11,5,2;111", 8, 1);
        fault("000", 0, 1);
    }

    /** "nothing else": a byte that is no letter, figure or SIGN, wherever a TOKEN could begin. */
    private static void otherBytesAreNoTokens() {
        int[] others = {0, 9, 10, 32, 43, 45, 46, 47, 58, 60, 64, 91, 96, 123, 127, 128, 178, 255};
        for (int place : TOKENS) {
            for (int other : others) {
                fault(with(place, (char) other), place, 1);
            }
        }
        fault(" " + TEXT, 0, 1);
        fault(TEXT + " ", 25, 1);
        fault(TEXT + (char) 0, 25, 1);
    }

    /** "letters a to z" */
    private static void capitalsAreNoTokens() {
        for (int place : new int[] {0, 8, 11, 14, 19}) {
            fault(with(place, Character.toUpperCase(TEXT.charAt(place))), place, 1);
        }
    }

    /** "1 it cannot stand there": each letter in each place that is not its own. */
    private static void lettersThatCannotStandThere() {
        for (int place : TOKENS) {
            for (char letter = 'a'; letter <= 'z'; letter++) {
                String may = place == 0 ? "m" : place == 8 ? "w" : place == 11 || place == 14 ? "wvbhds"
                    : place == 19 ? "vbhds" : "";
                if (may.indexOf(letter) < 0) {
                    fault(with(place, letter), place, 1);
                }
            }
        }
        good("m11,5,2;w3;b4,1;v2,6;d8,14;", 3);
        fault("mm", 1, 1);
        fault("m11,5,2;ww", 9, 1);
        fault("m11,5,2;w3;vv", 12, 1);
        fault("m11,5,2;w3;w4;v2,6;w3;", 19, 1);
    }

    /** The same of SIGNS. */
    private static void signsThatCannotStandThere() {
        for (int place : TOKENS) {
            if (TEXT.charAt(place) != ',') {
                fault(with(place, ','), place, 1);
            }
            if (TEXT.charAt(place) != ';') {
                fault(with(place, ';'), place, 1);
            }
        }
        fault(TEXT + ";", 25, 1);
        fault(TEXT + ",", 25, 1);
    }

    /** The same of NUMBERS, where no figure stands ahead of them. */
    private static void numbersThatCannotStandThere() {
        for (int place : new int[] {0, 8, 11, 14, 19}) {
            fault(with(place, '0'), place, 1);
            fault(with(place, '9'), place, 1);
        }
        fault(TEXT + "1", 25, 1);
        fault(TEXT + "11", 25, 1);
    }

    /** "the end: how many bytes there are" */
    private static void theEndIsAtSoManyBytes() {
        for (int length = 0; length < TEXT.length(); length++) {
            String text = TEXT.substring(0, length);
            if (length == 19) {
                good(text, 1);
            } else if (length == 2) {
                fault(text, 1, 2);
            } else {
                fault(text, length, 1);
            }
        }
        good(TEXT, 2);
    }

    /** "law wind { wind } sound { sound }": one of each at least. */
    private static void aTextWithoutWindOrSound() {
        fault("", 0, 1);
        fault("m5,0,0;", 7, 1);
        fault("m5,0,0;v0,1;", 7, 1);
        fault("m5,0,0;w0;", 10, 1);
        fault("w0;v0,1;", 0, 1);
        good("m5,0,0;w0;v0,1;", 1);
    }

    private static void nothingComesBehindTheSounds() {
        fault("m5,0,0;w0;v0,1;m5,0,0;w0;v0,1;", 15, 1);
        fault("m5,0,0;w0;v0,1;w0;", 15, 1);
        fault("m5,0,0;w0;v0,1;\n", 15, 1);
    }

    /** "CELLS .. (5 to 15 ..)", "2 a NUMBER that is not as told" */
    private static void cellsAre5To15() {
        good("m5,0,0;w0;v0,1;", 1);
        good("m15,0,0;w0;v0,1;", 1);
        for (String cells : new String[] {"0", "4", "04", "16", "99"}) {
            fault("m" + cells + ",0,0;w0;v0,1;", 1, 2);
        }
    }

    /** "MILL .. (a CELL ..)" */
    private static void theMillStandsInACell() {
        good("m5,0,0;w0;v0,1;", 1);
        good("m5,4,0;w0;v0,1;", 1);
        good("m15,14,0;w0;v0,1;", 1);
        fault("m5,5,0;w0;v0,1;", 3, 2);
        fault("m5,05,0;w0;v0,1;", 3, 2);
        fault("m11,11,0;w0;v0,1;", 4, 2);
        fault("m15,15,0;w0;v0,1;", 4, 2);
        fault("m15,99,0;w0;v0,1;", 4, 2);
    }

    /** "REACH .. (0 to 4)" */
    private static void reachIs0To4() {
        good("m5,0,0;w0;v0,1;", 1);
        good("m5,0,4;w0;v0,1;", 1);
        fault("m5,0,5;w0;v0,1;", 5, 2);
        fault("m5,0,05;w0;v0,1;", 5, 2);
        fault("m15,0,14;w0;v0,1;", 6, 2);
    }

    /** "WIND ; (0 to 4 ..)" */
    private static void windsAre0To4() {
        for (int wind = 0; wind <= 4; wind++) {
            good("m5,0,0;w" + wind + ";v0,1;", 1);
        }
        fault("m5,0,0;w5;v0,1;", 8, 2);
        fault("m5,0,0;w05;v0,1;", 8, 2);
        fault("m5,0,0;w4;w99;v0,1;", 11, 2);
    }

    /** "sound: SORT AT , LOUD (.. a CELL ..)" */
    private static void aSoundBeginsInACell() {
        good("m5,0,0;w0;v0,1;v4,1;", 2);
        good("m15,0,0;w0;v14,1;", 1);
        fault("m5,0,0;w0;v5,1;", 11, 2);
        fault("m15,0,0;w0;v15,1;", 12, 2);
        fault("m5,0,0;w0;v4,1;v99,1;", 16, 2);
    }

    /** "LOUD (.. 1 to 20)" */
    private static void loudIs1To20() {
        good("m5,0,0;w0;v0,1;v0,20;", 2);
        fault("m5,0,0;w0;v0,0;", 13, 2);
        fault("m5,0,0;w0;v0,00;", 13, 2);
        fault("m5,0,0;w0;v0,21;", 13, 2);
        fault("m5,0,0;w0;v0,99;", 13, 2);
    }

    /** "WINDS 0 .. 5, 6 at most", "3 a wind .. more than there is room for (its letter)" */
    private static void sixWindsAtMost() {
        MillTalk x = Check.told("m5,0,0;" + SIX_WINDS + "v0,1;");
        check.due("6 winds", x.count(2), 6);
        check.due("wind 5", x.gust(5), 0);
        check.due("wind 4", x.gust(4), 4);
        fault("m5,0,0;" + SIX_WINDS + "w0;v0,1;", 25, 3);
        fault("m5,0,0;" + SIX_WINDS + "w", 25, 3);
        fault("m5,0,0;" + SIX_WINDS + "w9;", 25, 3);
        fault("m5,0,0;" + SIX_WINDS + "w ", 25, 3);
    }

    /** "SOUNDS 0 .. 5, 6 at most", "3 .. a sound more than there is room for (its letter)" */
    private static void sixSoundsAtMost() {
        good("m5,0,0;w2;" + SIX_SOUNDS, 6);
        good("m5,0,0;" + SIX_WINDS + SIX_SOUNDS, 6);
        for (char sort : "vbhds".toCharArray()) {
            fault("m5,0,0;w2;" + SIX_SOUNDS + sort + "0,1;", 40, 3);
            fault("m5,0,0;w2;" + SIX_SOUNDS + sort, 40, 3);
            fault("m5,0,0;w2;" + SIX_SOUNDS + sort + "99,0;", 40, 3);
        }
    }

    /** "of one TOKEN the least" */
    private static void ofOneTokenTheLeastFault() {
        fault("m100,0,0;", 1, 1);
        fault("m5,0,0;w2;v0,100;", 13, 1);
        fault("m5,0,0;" + SIX_WINDS + SIX_SOUNDS + "w", 55, 1);
        fault("m5,0,0;" + SIX_WINDS + "m", 25, 1);
        fault("m5,0,0;" + SIX_WINDS + SIX_SOUNDS + "x", 55, 1);
        fault("m5,0,0;" + SIX_WINDS + SIX_SOUNDS + "0", 55, 1);
    }

    /** "the first TOKEN that has one" */
    private static void theFirstTokenThatHasAFault() {
        fault("m5,9,9;w9;v0,0;", 3, 2);
        fault("m4;", 1, 2);
        fault("m5;9", 2, 1);
        fault("m5,0,5 ", 5, 2);
        fault("m5,0 5", 4, 1);
        fault("m99", 1, 2);
        fault("m5,0,0;w9;" + SIX_WINDS, 8, 2);
        fault("m5,0,0;w2;v0,0;" + SIX_SOUNDS, 13, 2);
    }

    /** "The tape, empty then, is read" */
    private static void theTapeIsEmptyThen() {
        MillTalk x = Check.told(TEXT);
        check.due("behind a good text", x.count(7), 0);
        check.due("nothing more to read", x.level(), -1000100);
        check.due("1, at the end", x.fault(), 1);
        Check.tell(x, "m11,x");
        check.due("behind a fault", x.count(7), 0);
        check.due("from the first on", Check.tell(x, "m5,0,0;w2;v0,1;"), 1);
    }

    /** "-1000100 less the place of a FAULT: all stays." */
    private static void aFaultLeavesAll() {
        MillTalk x = Check.told(TEXT);
        x.cap();
        x.hours(2);
        x.image(1);
        check.due("fault", Check.tell(x, "m9,1,1;w0;b1,1;v"), -1000116);
        check.due("cells stay", x.stand(0), 11);
        check.due("mill stays", x.stand(1), 5);
        check.due("reach stays", x.stand(2), 2);
        check.due("cap stays", x.stand(3), 0);
        check.due("winds stay", x.count(2), 2);
        check.due("wind stays", x.gust(0), 3);
        check.due("sounds stay", x.count(1), 2);
        check.due("kind stays", x.kind(0), 1);
        check.due("hour stays", x.count(3), 2);
        check.due("acts stay", x.undo(), 2);
        check.due("the image stays", x.restore(1), 1);
    }

    /** "The number of the latest FAULT; 0 before one." */
    private static void theLatestFault() {
        MillTalk x = new MillTalk();
        check.due("before one", x.fault(), 0);
        Check.tell(x, TEXT);
        check.due("before one, behind a text", x.fault(), 0);
        Check.tell(x, "m3,");
        check.due("2", x.fault(), 2);
        Check.tell(x, "m5,0,0;" + SIX_WINDS + "w");
        check.due("3", x.fault(), 3);
        Check.tell(x, "x");
        check.due("1", x.fault(), 1);
        Check.tell(x, "m3,");
        check.due("a text without one", Check.tell(x, TEXT), 2);
        check.due("the latest is the same", x.fault(), 2);
    }

    /** "HOUR 0, all SOUNDS are LOOSE, the CAP is turned up (1), no MEAL; no ACT can be undone" */
    private static void aLevelStandsInPlaceOfTheOneBefore() {
        MillTalk x = Check.told("m5,2,2;w3;v1,9;v4,1;");
        x.cap();
        check.due("cap down: cell 2 is ground, 4 is lost", x.hours(1), 9);
        check.due("again", Check.tell(x, "m6,3,1;w1;w0;b1,8;v4,1;"), 2);
        check.due("hour", x.count(3), 0);
        check.due("loose", x.stand(4), 3);
        check.due("ground", x.stand(5), 0);
        check.due("lost", x.stand(6), 0);
        check.due("cap", x.stand(3), 1);
        check.due("meal", x.count(4), 0);
        check.due("acts", x.count(6), 0);
        check.due("undo", x.undo(), MillTalk.STATE);
        check.due("cells", x.stand(0), 6);
        check.due("mill", x.stand(1), 3);
        check.due("reach", x.stand(2), 1);
        check.due("winds", x.count(2), 2);
        check.due("kind", x.kind(0), 2);
        check.due("fewer", Check.tell(x, "m5,0,0;w2;s0,1;"), 1);
        check.due("no second sound any more", x.sound(1, 0), MillTalk.BAD);
        check.due("no second wind any more", x.wind(1, 0), MillTalk.BAD);
        check.due("one loose", x.count(5), 1);
    }

    /** "A LEVEL that is read stands in place of the one before": of nothing else. */
    private static void aLevelLeavesTheRest() {
        MillTalk x = Check.told(TEXT);
        x.image(0);
        Check.fill(x, 2, 7, 8);
        x.ask(1, 0);
        x.as(1, 1);
        check.due("another", Check.tell(x, "m5,0,0;w2;s0,1;"), 1);
        check.due("the trace", x.trace(0), 13);
        check.due("status: a KIND", x.status(), 3);
        check.due("a row", x.count(0), 1);
        check.due("the image", x.restore(0), 1);
        check.due("its cells", x.stand(0), 11);
        check.same("the row", Check.items(x, 2, 2), "7 8");
    }

    /** "SORT: v a voice, b a band, h a hare, d some Dutch, s the sea" */
    private static void sortsOfSounds() {
        MillTalk x = Check.told("m5,0,0;w2;v0,1;b0,1;h0,1;d0,1;s0,1;");
        for (int s = 0; s < 5; s++) {
            check.due("kind " + s, x.kind(s), s + 1);
        }
    }
}
