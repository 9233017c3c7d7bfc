import java.util.function.Supplier;
import java.util.function.ToLongFunction;

/**
 * "What is refused, or found, changes nothing but status()", "FORETOLD (nothing changes)", and "each can be undone": of
 * two objects with the same past one gets a call more, and then all that can be seen of both is compared.
 */
public final class RefusalsTest {
    private static final int BAD = MillTalk.BAD, STATE = MillTalk.STATE, FULL = MillTalk.FULL, NONE = MillTalk.NONE;
    private static final int FINDINGS = -1000010, NULL = 1, PLACE = 2, KIND = 3, SIZE = 4, STORE = 5;
    private static final Check check = new Check();

    public static void main(String[] args) {
        badRowCalls();
        findingsOfRowCalls();
        refusedActs();
        refusedSights();
        refusedForetelling();
        refusedHearing();
        refusedAsks();
        withoutALevel();
        withAFullTape();
        inTheLastHour();
        whatIsSeenChangesNothing();
        whatIsForetoldChangesNothing();
        whatIsHeardChangesStatusAlone();
        undoneAllIsAsItWas();
        check.end();
    }

    /** Sound 0 is ground, 1 is lost, 2 and 3 are loose; acts, images, a tape, rows, a trace, a fault, a status. */
    private static MillTalk used() {
        MillTalk x = Check.told("m9,4,1;w3;w0;w2;v3,7;v8,2;d7,9;s1,3;");
        x.image(1);
        Check.tell(x, "m9,4,1;w3;w9;");
        x.hours(1);
        x.cap();
        x.image(0);
        x.wind(2, 4);
        x.sell(3);
        x.ask(2, 1);
        x.row(0, 2, 3);
        x.set(0, 1, 5);
        x.row(1, 0, 2);
        x.row(2, 1, 0);
        for (char letter : "m5,1,0;w2;b3,".toCharArray()) {
            x.feed(letter);
        }
        x.as(0, 4);
        return x;
    }

    private static MillTalk fullTape() {
        MillTalk x = used();
        while (x.count(7) < 120) {
            x.feed('1');
        }
        return x;
    }

    private static MillTalk lastHour() {
        MillTalk x = Check.told("m9,4,1;w3;w0;w2;v3,7;v8,2;d7,9;s1,3;");
        for (int i = 0; i < 41; i++) {
            x.hours(24);
        }
        x.hours(14);
        return x;
    }

    /** All that can be seen of an object but status(); it is used up by this. */
    private static String all(MillTalk x) {
        StringBuilder all = new StringBuilder("fault " + x.fault() + "; counts");
        for (int what = 0; what < 8; what++) {
            all.append(' ').append(x.count(what));
        }
        all.append("; trace");
        for (int i = 0; i < 7; i++) {
            all.append(' ').append(x.trace(i));
        }
        see(x, all);
        for (int undone = x.undo(); undone >= 0; undone = x.undo()) {
            all.append("; undone ").append(undone);
            see(x, all);
        }
        for (int k = 0; k < 2; k++) {
            all.append("; restored ").append(x.restore(k));
            see(x, all);
        }
        all.append("; the tape ").append(x.level()).append(' ').append(x.fault());
        see(x, all);
        for (int row = 0; row < 3; row++) {
            all.append("; row ").append(Check.items(x, row, 3)).append(" wraps ").append(x.set(row, 0, 70000));
        }
        for (int row = 0; row < 8; row++) {
            all.append("; dropped ").append(x.drop(row));
        }
        return all.toString();
    }

    private static void see(MillTalk x, StringBuilder all) {
        all.append("; level ").append(x.count(3)).append(' ').append(x.count(4)).append(", stand");
        for (int what = 0; what < 7; what++) {
            all.append(' ').append(x.stand(what));
        }
        all.append(", winds");
        for (int n = 0; n < 3; n++) {
            all.append(' ').append(x.gust(n));
        }
        for (int s = 0; s < 4; s++) {
            all.append(", sound ").append(x.kind(s)).append(' ').append(x.sound(s, 0)).append(' ')
                .append(x.sound(s, 1)).append(' ').append(x.sound(s, 2)).append(' ').append(x.ask(s, 1));
        }
    }

    /** The call answers so, status() is so then, and all else is as in the twin without it. */
    private static void leavesAll(Supplier<MillTalk> past, String call, ToLongFunction<MillTalk> made, long due,
            int status) {
        MillTalk x = past.get();
        MillTalk twin = past.get();
        check.due(call, made.applyAsLong(x), due);
        check.due(call + ", status", x.status(), status);
        check.same(call, all(x), all(twin));
    }

    private static void refused(String call, ToLongFunction<MillTalk> made, long due) {
        leavesAll(RefusalsTest::used, call, made, due, KIND);
    }

    private static void unchanged(String call, ToLongFunction<MillTalk> made, long due) {
        refused(call, made, due);
    }

    private static void found(String call, ToLongFunction<MillTalk> made, int finding) {
        leavesAll(RefusalsTest::used, call, made, FINDINGS - finding, finding);
    }

    private static void badRowCalls() {
        refused("row 8", x -> x.row(8, 0, 1), BAD);
        refused("row, lane 3", x -> x.row(0, 3, 1), BAD);
        refused("row, 41 items", x -> x.row(0, 2, 41), BAD);
        refused("set, row 8", x -> x.set(8, 0, 1), BAD);
        refused("copy from 8", x -> x.copy(8, 0, 0, 0, 1), BAD);
        refused("copy to 8", x -> x.copy(0, 0, 8, 0, 1), BAD);
        refused("drop 8", x -> x.drop(8), BAD);
    }

    private static void findingsOfRowCalls() {
        found("row, -1 items", x -> x.row(0, 0, -1), SIZE);
        found("set, missing", x -> x.set(3, 0, 1), NULL);
        found("set, place 3", x -> x.set(0, 3, 1), PLACE);
        found("set, place -1", x -> x.set(0, -1, 1), PLACE);
        found("copy, a missing", x -> x.copy(3, 0, 0, 0, 1), NULL);
        found("copy, b missing", x -> x.copy(0, 0, 3, 0, 1), NULL);
        found("copy, two lanes", x -> x.copy(0, 1, 1, 0, 1), STORE);
        found("copy, beyond", x -> x.copy(0, 1, 0, 2, 2), PLACE);
        found("drop, missing", x -> x.drop(3), NULL);
    }

    private static void refusedActs() {
        refused("feed 256", x -> x.feed(256), BAD);
        refused("hours 0", x -> x.hours(0), BAD);
        refused("hours 25", x -> x.hours(25), BAD);
        refused("wind 3", x -> x.wind(3, 0), BAD);
        refused("wind to 5", x -> x.wind(0, 5), BAD);
        refused("loose, sound 4", x -> x.loose(4, 0, 1), BAD);
        refused("loose, cell 9", x -> x.loose(0, 9, 1), BAD);
        refused("loose, loud 21", x -> x.loose(0, 0, 21), BAD);
        refused("loose, it is", x -> x.loose(2, 0, 1), STATE);
        refused("sell 0", x -> x.sell(0), BAD);
        refused("sell 5 of 4", x -> x.sell(5), STATE);
        refused("image 2", x -> x.image(2), BAD);
        refused("restore 2", x -> x.restore(2), BAD);
    }

    private static void refusedSights() {
        refused("sound 4", x -> x.sound(4, 0), BAD);
        refused("sound, what 4", x -> x.sound(0, 4), BAD);
        refused("stand 7", x -> x.stand(7), BAD);
        refused("gust 61", x -> x.gust(61), BAD);
        refused("count 8", x -> x.count(8), BAD);
        refused("trace 9", x -> x.trace(9), NONE);
    }

    private static void refusedForetelling() {
        refused("ahead 61", x -> x.ahead(0, 61, 0), BAD);
        refused("meal 61", x -> x.meal(61), BAD);
        refused("when 0", x -> x.when(0, 0), BAD);
        refused("caps 9", x -> x.caps(9, 0), BAD);
        refused("caps, k 8", x -> x.caps(8, 8), NONE);
        refused("had 16", x -> x.had(16, 1), BAD);
        refused("had, never", x -> x.had(2, 8), NONE);
        refused("site 31", x -> x.site(31, 0), BAD);
        refused("sack 121", x -> x.sack(121, 0), BAD);
        refused("share 1000", x -> x.share(2, 1000), BAD);
        refused("byTurns 5", x -> x.byTurns(5, 1), BAD);
        refused("calm 61", x -> x.calm(0, 61, 0, 0), BAD);
        refused("drawn 61", x -> x.drawn(61, 1, 0), BAD);
    }

    private static void refusedHearing() {
        refused("who, which 2", x -> x.who(2, 2, 0, 0, 1), BAD);
        refused("who, ground", x -> x.who(0, 0, 0, 0, 1), STATE);
        refused("gusts, wind 3", x -> x.gusts(3, 2, 0, 0, 1), BAD);
        refused("gusts, lost", x -> x.gusts(0, 1, 0, 0, 1), STATE);
        found("who, missing", x -> x.who(2, 0, 3, 0, 1), NULL);
        found("who, beyond", x -> x.who(2, 1, 0, 2, 2), PLACE);
        found("gusts, missing", x -> x.gusts(0, 2, 3, 0, 1), NULL);
        found("reaches, beyond", x -> x.gusts(-1, 2, 0, 3, 1), PLACE);
    }

    private static void refusedAsks() {
        refused("kind 4", x -> x.kind(4), BAD);
        refused("as 4", x -> x.as(4, 0), BAD);
        refused("as kind 6", x -> x.as(0, 6), BAD);
        refused("ask 4", x -> x.ask(4, 0), BAD);
        refused("ask, what 2", x -> x.ask(0, 2), BAD);
        found("as another kind", x -> x.as(2, 5), KIND);
    }

    private static void withoutLevel(String call, ToLongFunction<MillTalk> made, long due) {
        leavesAll(MillTalk::new, "no level: " + call, made, due, 0);
    }

    private static void withoutALevel() {
        withoutLevel("hours", x -> x.hours(1), STATE);
        withoutLevel("cap", x -> x.cap(), STATE);
        withoutLevel("wind", x -> x.wind(0, 0), BAD);
        withoutLevel("loose", x -> x.loose(0, 0, 1), BAD);
        withoutLevel("sell", x -> x.sell(1), STATE);
        withoutLevel("undo", x -> x.undo(), STATE);
        withoutLevel("image", x -> x.image(0), STATE);
        withoutLevel("restore", x -> x.restore(0), STATE);
        withoutLevel("drawn", x -> x.drawn(1, 1, 0), STATE);
        withoutLevel("ask", x -> x.ask(0, 0), BAD);
    }

    private static void withAFullTape() {
        leavesAll(RefusalsTest::fullTape, "full: feed", x -> x.feed('m'), FULL, KIND);
        leavesAll(RefusalsTest::fullTape, "full: feed 256", x -> x.feed(256), BAD, KIND);
    }

    private static void inTheLastHour() {
        leavesAll(RefusalsTest::lastHour, "998: hours 2", x -> x.hours(2), FULL, 0);
        leavesAll(RefusalsTest::lastHour, "998: hours 24", x -> x.hours(24), FULL, 0);
        leavesAll(RefusalsTest::lastHour, "998: restore", x -> x.restore(0), STATE, 0);
    }

    private static void whatIsSeenChangesNothing() {
        unchanged("sound", x -> x.sound(2, 0), 6);
        unchanged("drift", x -> x.sound(2, 3), 2);
        unchanged("stand", x -> x.stand(3), 0);
        unchanged("gust", x -> x.gust(1), 4);
        unchanged("count", x -> x.count(4), 4);
        unchanged("fault", x -> x.fault(), 2);
        unchanged("status", x -> x.status(), KIND);
        unchanged("kind", x -> x.kind(2), 4);
        unchanged("trace", x -> x.trace(0), 23);
    }

    /**
     * Now Dutch is in 6, 8 loud, the sea in 1, 4 loud, the winds to come are 0, 4, 3, the cap is down, there is 4 of
     * meal: Dutch comes to 8, 6, 5, 7, 5, and to 4 in the sixth hour, 2 loud.
     */
    private static void whatIsForetoldChangesNothing() {
        unchanged("ahead", x -> x.ahead(3, 60, 2), 20);
        unchanged("meal", x -> x.meal(60), 6);
        unchanged("when", x -> x.when(2, 1), 6);
        unchanged("caps: up for 5", x -> x.caps(8, -1), 9);
        unchanged("caps, the first", x -> x.caps(8, 0), 0);
        unchanged("caps, the third", x -> x.caps(8, 2), 1);
        unchanged("had", x -> x.had(5, 8), 0);
        unchanged("site: the first hour from 8", x -> x.site(30, 0), 8);
        unchanged("sack", x -> x.sack(12, 2), 12);
        unchanged("share", x -> x.share(2, 10), 7);
        unchanged("byTurns: up, and the wind stays", x -> x.byTurns(4, 20), 9);
        unchanged("calm: in 4 of 8 cases", x -> x.calm(2, 60, 5, 1), 2);
        unchanged("drawn", x -> x.drawn(1, 1, 1), 1);
        unchanged("drawn from seed 7 for 60 hours", x -> Math.min(x.drawn(60, 7, 1), 0), 0);
    }

    private static void whatIsHeardChangesStatusAlone() {
        leavesAll(RefusalsTest::used, "who", x -> x.who(2, 0, 0, 0, 1), 0, 0);
        leavesAll(RefusalsTest::used, "starts", x -> x.who(2, 1, 0, 1, 1), 8, 0);
        leavesAll(RefusalsTest::used, "gusts", x -> x.gusts(1, 2, 0, 1, 1), 8, 0);
        leavesAll(RefusalsTest::used, "reaches", x -> x.gusts(-1, 2, 0, 1, 1), 0, 0);
        leavesAll(RefusalsTest::used, "as", x -> x.as(2, 4), 2, 0);
    }

    private static void undone(String act, ToLongFunction<MillTalk> made, long due) {
        leavesAll(RefusalsTest::used, act + ", undone", x -> made.applyAsLong(x) == due ? x.undo() : NONE, 4, KIND);
    }

    /** "each can be undone": then all is as ahead of it, the ACTS before it, too. */
    private static void undoneAllIsAsItWas() {
        undone("an hour", x -> x.hours(1), 4);
        undone("a cap", x -> x.cap(), 1);
        undone("a wind", x -> x.wind(1, 3), 0);
        undone("a wind that is the same", x -> x.wind(1, 0), 0);
        undone("loose again, that was ground", x -> x.loose(0, 8, 20), 13);
        undone("loose again, that was lost", x -> x.loose(1, 0, 1), 14);
        undone("meal", x -> x.sell(4), 0);
        leavesAll(RefusalsTest::used, "three hours, undone", x -> x.hours(3) + x.undo() + x.undo() + x.undo(),
            4 + 6 + 5 + 4, KIND);
    }
}
