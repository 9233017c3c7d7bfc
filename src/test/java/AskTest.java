/** Promises 33 to 36, and 38 for as(): kinds of sounds, and what is asked of them by which bodies. */
public final class AskTest {
    private static final int KIND = -1000013;
    private static final Check check = new Check();

    public static void main(String[] args) {
        noLevel();
        kinds();
        taken();
        asks();
        askedOfOnesThatAreNotLoose();
        check.end();
    }

    private static void noLevel() {
        MillTalk x = new MillTalk();
        check.due("kind", x.kind(0), MillTalk.BAD);
        check.due("as", x.as(0, 0), MillTalk.BAD);
        check.due("ask", x.ask(0, 0), MillTalk.BAD);
        check.due("trace", x.trace(0), MillTalk.NONE);
    }

    private static MillTalk five() {
        return Check.told("m15,14,0;w2;s3,7;d4,9;h5,11;b6,13;v7,15;");
    }

    private static void kinds() {
        MillTalk x = five();
        for (int s = 0; s < 5; s++) {
            check.due("kind " + s, x.kind(s), 5 - s);
        }
        check.due("kind 5", x.kind(5), MillTalk.BAD);
        check.due("kind -1", x.kind(-1), MillTalk.BAD);
    }

    private static void taken() {
        MillTalk x = five();
        String[] are = {"045", "04", "013", "012", "01"};
        for (int s = 0; s < 5; s++) {
            for (int kind = 0; kind < 6; kind++) {
                boolean is = are[s].indexOf('0' + kind) >= 0;
                check.due("as " + s + " " + kind, x.as(s, kind), is ? s : KIND);
                check.due("status", x.status(), is ? 0 : 3);
            }
        }
        check.due("found", x.as(4, 4), KIND);
        check.due("kind 6", x.as(0, 6), MillTalk.BAD);
        check.due("kind -1", x.as(0, -1), MillTalk.BAD);
        check.due("sound 5", x.as(5, 0), MillTalk.BAD);
        check.due("status stays", x.status(), 3);
        x.as(0, 0);
        check.due("status 0", x.status(), 0);
    }

    private static void ask(MillTalk x, int sound, int what, int answer, int... trace) {
        String call = "ask " + sound + " " + what;
        check.due(call, x.ask(sound, what), answer);
        for (int i = 0; i < trace.length; i++) {
            check.due(call + " trace " + i, x.trace(i), trace[i]);
        }
        check.due(call + " trace ends", x.trace(trace.length), MillTalk.NONE);
    }

    private static void asks() {
        MillTalk x = five();
        ask(x, 4, 0, 15 + 4 + 7, 11, 10, 21, 20);
        ask(x, 4, 1, 4 + 7, 21, 20);
        ask(x, 3, 0, -(13 + 2 * (3 + 6)), 12, 11, 10, 24, 21, 20);
        ask(x, 3, 1, 2 * (3 + 6), 24, 21, 20);
        ask(x, 2, 0, 11 + 2 + 5 - 1000, 11, 10, 22, 21, 20);
        ask(x, 2, 1, 2 + 5 - 1000, 22, 21, 20);
        ask(x, 1, 0, 9 - 100, 13, 10);
        ask(x, 1, 1, 1 - (9 - 100), 23, 20, 13, 10);
        ask(x, 0, 0, 2 * (7 - 100), 14, 13, 10);
        ask(x, 0, 1, 0 - 2 * (7 - 100), 23, 20, 14, 13, 10);
        check.due("sound 5", x.ask(5, 0), MillTalk.BAD);
        check.due("ask 2", x.ask(0, 2), MillTalk.BAD);
        check.due("ask -1", x.ask(0, -1), MillTalk.BAD);
        check.due("refused: the trace stays", x.trace(4), 10);
        check.due("trace -1", x.trace(-1), MillTalk.NONE);
        check.due("trace 16", x.trace(16), MillTalk.NONE);
        check.due("trace far", x.trace(Integer.MAX_VALUE), MillTalk.NONE);
    }

    private static void askedOfOnesThatAreNotLoose() {
        MillTalk x = Check.told("m9,6,0;w3;v5,4;v8,5;d0,6;");
        x.hours(1);
        ask(x, 0, 1, 6, 21, 20);
        ask(x, 1, 0, 5 + 1 + 8, 11, 10, 21, 20);
        ask(x, 2, 0, 6 - 100, 13, 10);
    }
}
