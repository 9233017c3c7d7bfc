/** Promises 27, 28 and 38: which kinds, starts, winds and reaches fit what was heard. */
public final class HeardTest {
    private static final int BAD = MillTalk.BAD, STATE = MillTalk.STATE, NULL = -1000011, PLACE = -1000012;
    private static final Check check = new Check();

    public static void main(String[] args) {
        kinds();
        starts();
        winds();
        reaches();
        refusals();
        check.end();
    }

    private static void kinds() {
        // The mill is far up, the winds are one up, two up.
        MillTalk x = Check.told("m15,14,0;w3;w4;v5,3;d5,1;");
        Check.fill(x, 0, 6, 8);
        check.due("a voice", x.who(0, 0, 0, 0, 2), 1 << 1);
        Check.fill(x, 0, 5, 6);
        check.due("a band or the sea, at first", x.who(0, 0, 0, 0, 1), 1 << 2 | 1 << 5);
        check.due("a band", x.who(0, 0, 0, 0, 2), 1 << 2);
        Check.fill(x, 0, 7, 11);
        check.due("a hare", x.who(0, 0, 0, 0, 2), 1 << 3);
        Check.fill(x, 0, 4, 2);
        check.due("some Dutch", x.who(0, 0, 0, 0, 2), 1 << 4);
        check.due("no Dutch, with 1", x.who(1, 0, 0, 0, 2), 0);
        Check.fill(x, 0, 99, 99);
        check.due("lost at once is Dutch", x.who(1, 0, 0, 0, 2), 1 << 4);
        Check.fill(x, 0, 5, 5);
        check.due("the sea", x.who(0, 0, 0, 0, 2), 1 << 5);
        check.due("the kind stays", x.kind(0), 1);
    }

    private static void starts() {
        MillTalk x = Check.told("m9,7,1;w3;w4;v5,3;");
        Check.fill(x, 3, 0, 0, 2, 4, 99);
        check.due("from 1", x.who(0, 1, 3, 2, 2), 1 << 1);
        Check.fill(x, 3, 99);
        check.due("to the mill or beyond: from 6, 7, 8", x.who(0, 1, 3, 0, 1), 1 << 6 | 1 << 7 | 1 << 8);
        Check.fill(x, 3, 1, 3, 4, 6, 99);
        check.due("to the end", x.who(0, 1, 3, 0, 5), 1);
        Check.fill(x, 3, 0);
        check.due("from none", x.who(0, 1, 3, 0, 1), 0);
        check.due("it stays where it is", x.sound(0, 0), 5);
    }

    private static void winds() {
        MillTalk x = Check.told("m15,14,0;w3;w4;b5,3;v8,3;");
        Check.fill(x, 1, 5, 6, 6);
        check.due("the first by a band", x.gusts(0, 0, 1, 0, 3), 1 << 1 | 1 << 2 | 1 << 3);
        check.due("the second by a band", x.gusts(1, 0, 1, 0, 3), 1 << 4);
        check.due("it has not blown yet", x.gusts(1, 0, 1, 0, 1), 31);
        Check.fill(x, 1, 9, 7, 8);
        check.due("the second by a voice", x.gusts(1, 1, 1, 0, 3), 1);
        check.due("winds stay", x.gust(1), 4);
    }

    private static void reaches() {
        MillTalk x = Check.told("m15,4,2;w3;v5,3;");
        Check.fill(x, 1, 6);
        check.due("not ground", x.gusts(-1, 0, 1, 0, 1), 1 | 1 << 1);
        Check.fill(x, 1, 99);
        check.due("ground", x.gusts(-1, 0, 1, 0, 1), 1 << 2 | 1 << 3 | 1 << 4);
        check.due("the reach stays", x.stand(2), 2);
        x.cap();
        check.due("with the cap down", x.gusts(-1, 0, 1, 0, 1), 0);
    }

    private static void refusals() {
        MillTalk x = Check.told("m9,7,1;w3;w4;v5,3;v8,1;");
        Check.fill(x, 0, 6, 99, 0, 0, 0, 0, 0, 0, 0, 0, 0, 0, 0);
        x.hours(1);
        check.due("sound 2", x.who(2, 0, 0, 0, 1), BAD);
        check.due("which 2", x.who(0, 2, 0, 0, 1), BAD);
        check.due("which -1", x.who(0, -1, 0, 0, 1), BAD);
        check.due("row 8", x.who(0, 0, 8, 0, 1), BAD);
        check.due("n 0", x.who(0, 0, 0, 0, 0), BAD);
        check.due("n 13", x.who(0, 0, 0, 0, 13), BAD);
        check.due("n 12", x.who(0, 0, 0, 1, 12), 0);
        check.due("places 2 to 13", x.who(0, 0, 0, 2, 12), PLACE);
        check.due("status", x.status(), 2);
        check.due("lost, ahead of a missing row", x.who(1, 0, 5, 0, 1), STATE);
        check.due("status stays", x.status(), 2);
        check.due("missing, ahead of a place", x.who(0, 0, 5, -1, 1), NULL);
        check.due("status", x.status(), 1);
        check.due("place -1", x.who(0, 0, 0, -1, 1), PLACE);
        check.due("place far", x.who(0, 0, 0, Integer.MAX_VALUE, 12), PLACE);
        check.due("wind -2", x.gusts(-2, 0, 0, 0, 1), BAD);
        check.due("wind 2", x.gusts(2, 0, 0, 0, 1), BAD);
        check.due("sound -1", x.gusts(0, -1, 0, 0, 1), BAD);
        check.due("row -1", x.gusts(0, 0, -1, 0, 1), BAD);
        check.due("n 13", x.gusts(0, 0, 0, 0, 13), BAD);
        check.due("n 0", x.gusts(0, 0, 0, 0, 0), BAD);
        check.due("lost", x.gusts(-1, 1, 5, 0, 1), STATE);
        check.due("missing", x.gusts(-1, 0, 5, 0, 1), NULL);
        check.due("place", x.gusts(0, 0, 0, 13, 1), PLACE);
        check.due("status", x.status(), 2);
        check.due("fine: 6, then ground", x.gusts(1, 0, 0, 1, 1), 0b11000);
        check.due("status 0", x.status(), 0);
    }
}
