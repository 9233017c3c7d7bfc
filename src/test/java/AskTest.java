/** Terms, part 4, promises 33 to 36, and 38 for as(): a test for each sentence. */
public final class AskTest {
    private static final int BAD = MillTalk.BAD, NONE = MillTalk.NONE, KIND = -1000013;
    private static final int FAR_UP = Integer.MAX_VALUE, FAR_DOWN = Integer.MIN_VALUE;
    private static final Check check = new Check();

    public static void main(String[] args) {
        kindsOfSounds();
        kindOfNoSuchSound();
        takenAsOneOfAKind();
        noSuchOne();
        takenAsNoSuchThing();
        statusBehindAs();
        sizes();
        marks();
        theLeastAndTheMost();
        askedWhereTheyWere();
        askedOfNoSuchThing();
        theTraceIsEmptyAheadOfAnAsk();
        aBadAskLeavesTheTrace();
        theTraceStaysInOtherCalls();
        placesOfTheTrace();
        check.end();
    }

    private static MillTalk five() {
        return Check.told("m15,14,0;w2;s3,7;d4,9;h5,11;b6,13;v7,15;");
    }

    /** "The KIND of a SOUND, as told (1 to 5)." */
    private static void kindsOfSounds() {
        MillTalk x = five();
        for (int s = 0; s < 5; s++) {
            check.due("kind " + s, x.kind(s), 5 - s);
        }
        MillTalk lost = Check.told("m5,0,0;w4;v4,1;");
        lost.hours(1);
        check.due("lost, a voice still", lost.kind(0), 1);
    }

    private static void kindOfNoSuchSound() {
        check.due("no level", new MillTalk().kind(0), BAD);
        MillTalk x = five();
        for (int one : new int[] {-1, 5, 6, FAR_UP, FAR_DOWN}) {
            check.due("kind of " + one, x.kind(one), BAD);
        }
        check.due("the sixth", Check.told("m5,0,0;w2;v0,1;v0,1;v0,1;v0,1;v0,1;s0,1;").kind(5), 5);
    }

    /** "A SOUND is taken as one of a KIND (0 .. 5): its number.", "1 VOICE, a SOUND; 2 BAND, a VOICE; .." */
    private static void takenAsOneOfAKind() {
        MillTalk x = five();
        String[] are = {"045", "04", "013", "012", "01"};
        for (int s = 0; s < 5; s++) {
            for (char kind : are[s].toCharArray()) {
                check.due("as " + s + " " + kind, x.as(s, kind - '0'), s);
            }
        }
    }

    /** "KIND: it is no such one." */
    private static void noSuchOne() {
        MillTalk x = five();
        String[] areNot = {"123", "1235", "245", "345", "2345"};
        for (int s = 0; s < 5; s++) {
            for (char kind : areNot[s].toCharArray()) {
                check.due("as " + s + " " + kind, x.as(s, kind - '0'), KIND);
                check.due("status KIND", x.status(), 3);
            }
        }
    }

    private static void takenAsNoSuchThing() {
        check.due("no level", new MillTalk().as(0, 0), BAD);
        MillTalk x = five();
        for (int kind : new int[] {-1, 6, FAR_UP, FAR_DOWN}) {
            check.due("as kind " + kind, x.as(0, kind), BAD);
        }
        for (int one : new int[] {-1, 5, 6, FAR_UP, FAR_DOWN}) {
            check.due("as of " + one, x.as(one, 0), BAD);
        }
    }

    /** "Of the latest call with a ROW, or as() ..: the number of its FINDING; 0: it had none" */
    private static void statusBehindAs() {
        MillTalk x = five();
        x.as(4, 4);
        check.due("found", x.status(), 3);
        x.as(0, 6);
        check.due("kind 6 was BAD", x.status(), 3);
        x.as(5, 0);
        check.due("sound 5 was BAD", x.status(), 3);
        x.as(0, 0);
        check.due("it had none", x.status(), 0);
        x.as(4, 4);
        x.row(0, 0, 1);
        check.due("a row behind it", x.status(), 0);
        x.set(0, 1, 1);
        x.as(4, 1);
        check.due("as() behind a set that found", x.status(), 0);
    }

    private static void ask(MillTalk x, int sound, int what, int answer, int... trace) {
        String call = "ask " + sound + " " + what;
        check.due(call, x.ask(sound, what), answer);
        for (int i = 0; i < trace.length; i++) {
            check.due(call + " trace " + i, x.trace(i), trace[i]);
        }
        check.due(call + " trace ends", x.trace(trace.length), NONE);
    }

    /** "0 SIZE: 10 lent to all ..: LOUD. 11 of VOICES .. 12 of BANDS .. 13 of DUTCH .. 14 of SEAS .." */
    private static void sizes() {
        MillTalk x = five();
        ask(x, 4, 0, 15 + (4 + 7), 11, 10, 21, 20);
        ask(x, 3, 0, -(13 + 2 * (3 + 6)), 12, 11, 10, 24, 21, 20);
        ask(x, 2, 0, 11 + (2 + 5 - 1000), 11, 10, 22, 21, 20);
        ask(x, 1, 0, 9 - 100, 13, 10);
        ask(x, 0, 0, 2 * (7 - 100), 14, 13, 10);
    }

    /** "1 MARK: 20 lent to all ..: the number. 21 of VOICES .. 22 of HARES .. 23 of DUTCH .. 24 of BANDS .." */
    private static void marks() {
        MillTalk x = five();
        ask(x, 4, 1, 4 + 7, 21, 20);
        ask(x, 3, 1, 2 * (3 + 6), 24, 21, 20);
        ask(x, 2, 1, 2 + 5 - 1000, 22, 21, 20);
        ask(x, 1, 1, 1 - (9 - 100), 23, 20, 13, 10);
        ask(x, 0, 1, 0 - 2 * (7 - 100), 23, 20, 14, 13, 10);
    }

    private static void theLeastAndTheMost() {
        MillTalk x = Check.told("m15,14,0;w2;v0,1;v0,1;b14,20;s14,20;d0,20;v14,20;");
        ask(x, 0, 0, 1, 11, 10, 21, 20);
        ask(x, 0, 1, 0, 21, 20);
        ask(x, 2, 0, -(20 + 2 * 16), 12, 11, 10, 24, 21, 20);
        ask(x, 3, 0, -160, 14, 13, 10);
        ask(x, 3, 1, 3 + 160, 23, 20, 14, 13, 10);
        ask(x, 4, 1, 4 + 80, 23, 20, 13, 10);
        ask(x, 5, 0, 20 + 5 + 14, 11, 10, 21, 20);
    }

    /** "the CELL (where it was, if it is not LOOSE)" */
    private static void askedWhereTheyWere() {
        MillTalk x = Check.told("m9,6,0;w3;v5,4;v8,5;d0,6;d7,5;v1,1;");
        x.hours(1);
        ask(x, 0, 1, 6, 21, 20);
        ask(x, 0, 0, 4 + 6, 11, 10, 21, 20);
        ask(x, 1, 1, 1 + 8, 21, 20);
        ask(x, 1, 0, 5 + 1 + 8, 11, 10, 21, 20);
        ask(x, 2, 0, 6 - 100, 13, 10);
        ask(x, 3, 0, 4 - 100, 13, 10);
        ask(x, 4, 1, 4 + 2, 21, 20);
        x.loose(0, 2, 9);
        ask(x, 0, 0, 9 + 2, 11, 10, 21, 20);
    }

    /** "An ASK (0, 1) of a SOUND. BAD." */
    private static void askedOfNoSuchThing() {
        check.due("no level", new MillTalk().ask(0, 0), BAD);
        MillTalk x = five();
        for (int one : new int[] {-1, 5, 6, FAR_UP, FAR_DOWN}) {
            check.due("ask of " + one, x.ask(one, 0), BAD);
        }
        for (int what : new int[] {-1, 2, FAR_UP, FAR_DOWN}) {
            check.due("ask " + what, x.ask(0, what), BAD);
        }
    }

    /** "THE TRACE is empty ahead of it." */
    private static void theTraceIsEmptyAheadOfAnAsk() {
        MillTalk x = five();
        check.due("empty at first", x.trace(0), NONE);
        ask(x, 3, 0, -31, 12, 11, 10, 24, 21, 20);
        ask(x, 1, 0, -91, 13, 10);
        for (int i = 2; i < 17; i++) {
            check.due("nothing behind them " + i, x.trace(i), NONE);
        }
    }

    /** "What is refused .. changes nothing" */
    private static void aBadAskLeavesTheTrace() {
        MillTalk x = five();
        x.ask(1, 0);
        x.ask(5, 0);
        x.ask(0, 2);
        check.due("first", x.trace(0), 13);
        check.due("second", x.trace(1), 10);
        check.due("no third", x.trace(2), NONE);
    }

    private static void theTraceStaysInOtherCalls() {
        MillTalk x = five();
        x.ask(1, 0);
        x.hours(1);
        x.undo();
        x.as(0, 0);
        x.kind(0);
        x.trace(0);
        check.due("first", x.trace(0), 13);
        check.due("second", x.trace(1), 10);
    }

    /** "Number i of THE TRACE; NONE." */
    private static void placesOfTheTrace() {
        MillTalk x = five();
        x.ask(3, 0);
        check.due("the last", x.trace(5), 20);
        for (int i : new int[] {-1, 6, 15, 16, 17, FAR_UP, FAR_DOWN}) {
            check.due("trace " + i, x.trace(i), NONE);
        }
    }
}
