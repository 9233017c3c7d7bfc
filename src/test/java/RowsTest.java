/** Promises 1 to 5, and 38 for these calls. */
public final class RowsTest {
    private static final int NULL = -1000011, PLACE = -1000012, SIZE = -1000014, STORE = -1000015;
    private static final Check check = new Check();

    public static void main(String[] args) {
        newObject();
        rows();
        items();
        copies();
        drops();
        refusalsKeepStatus();
        check.end();
    }

    private static void newObject() {
        MillTalk x = new MillTalk();
        for (int what = 0; what < 8; what++) {
            check.due("new: count " + what, x.count(what), 0);
        }
        check.due("new: stand", x.stand(0), MillTalk.STATE);
        check.due("new: status", x.status(), 0);
        check.due("new: fault", x.fault(), 0);
        check.due("new: trace", x.trace(0), MillTalk.NONE);
    }

    private static void rows() {
        MillTalk x = new MillTalk();
        check.due("row 0 items", x.row(0, 0, 0), 0);
        check.due("row 40 items", x.row(7, 2, 40), 40);
        check.due("count", x.count(0), 2);
        check.due("row -1", x.row(-1, 0, 0), MillTalk.BAD);
        check.due("row 8", x.row(8, 0, 0), MillTalk.BAD);
        check.due("lane -1", x.row(0, -1, 0), MillTalk.BAD);
        check.due("lane 3", x.row(0, 3, 0), MillTalk.BAD);
        check.due("41 items", x.row(0, 0, 41), MillTalk.BAD);
        check.due("bad row with -1 items", x.row(8, 0, -1), MillTalk.BAD);
        check.due("-1 items", x.row(1, 0, -1), SIZE);
        check.due("status SIZE", x.status(), 4);
        check.due("count is as it was", x.count(0), 2);
        x.set(7, 39, 5);
        check.due("found: the row stays", x.row(7, 2, Integer.MIN_VALUE), SIZE);
        Check.fill(x, 2, 0);
        x.copy(7, 39, 2, 0, 1);
        check.due("made anew", x.row(7, 2, 40), 40);
        check.due("items are 0 anew", itemOf(x, 7, 39), 0);
        check.due("status 0 again", x.status(), 0);
    }

    /** Reads an item of a row of ints: only who() tells, by a sound that rests in the cell. */
    private static int itemOf(MillTalk x, int row, int i) {
        Check.tell(x, "m15,0,0;w2;s5,1;");
        int start = x.who(0, 1, row, i, 1);
        return start <= 0 ? -1 : Integer.numberOfTrailingZeros(start);
    }

    private static void items() {
        MillTalk x = new MillTalk();
        x.row(0, 0, 3);
        x.row(1, 1, 3);
        x.row(2, 2, 3);
        check.due("byte", x.set(0, 0, 127), 127);
        check.due("byte 128", x.set(0, 0, 128), -128);
        check.due("byte 255", x.set(0, 2, 255), -1);
        check.due("byte 256", x.set(0, 2, 256), 0);
        check.due("byte 65537", x.set(0, 2, 65537), 1);
        check.due("short 32768", x.set(1, 0, 32768), -32768);
        check.due("short 65535", x.set(1, 0, 65535), -1);
        check.due("short -32769", x.set(1, 0, -32769), 32767);
        check.due("int", x.set(2, 0, Integer.MIN_VALUE), Integer.MIN_VALUE);
        check.due("place -1", x.set(0, -1, 0), PLACE);
        check.due("status PLACE", x.status(), 2);
        check.due("place 3", x.set(0, 3, 0), PLACE);
        check.due("place far", x.set(0, Integer.MAX_VALUE, 0), PLACE);
        check.due("missing", x.set(3, 0, 0), NULL);
        check.due("status NULL", x.status(), 1);
        check.due("row -1", x.set(-1, 0, 0), MillTalk.BAD);
        check.due("row 8", x.set(8, 0, 0), MillTalk.BAD);
        check.due("no places", x.row(4, 0, 0) + x.set(4, 0, 0), PLACE);
    }

    private static void copies() {
        MillTalk x = new MillTalk();
        Check.fill(x, 0, 1, 2, 3, 4, 5);
        x.row(1, 2, 3);
        x.row(2, 0, 5);
        check.due("copy", x.copy(0, 1, 1, 0, 3), 3);
        check.due("copied 0", itemOf(x, 1, 0), 2);
        check.due("copied 2", itemOf(x, 1, 2), 4);
        check.due("onto itself, up", x.copy(0, 0, 0, 1, 4), 4);
        int[] up = {1, 1, 2, 3, 4};
        for (int i = 0; i < 5; i++) {
            check.due("up " + i, itemOf(x, 0, i), up[i]);
        }
        check.due("onto itself, down", x.copy(0, 2, 0, 0, 3), 3);
        int[] down = {2, 3, 4, 3, 4};
        for (int i = 0; i < 5; i++) {
            check.due("down " + i, itemOf(x, 0, i), down[i]);
        }
        check.due("none at the ends", x.copy(0, 5, 1, 3, 0), 0);
        check.due("none beyond", x.copy(0, 6, 1, 3, 0), PLACE);
        check.due("i below", x.copy(0, -1, 1, 0, 1), PLACE);
        check.due("j below", x.copy(0, 0, 1, -1, 1), PLACE);
        check.due("n below", x.copy(0, 0, 1, 0, -1), PLACE);
        check.due("a ends", x.copy(0, 3, 1, 0, 3), PLACE);
        check.due("b ends", x.copy(0, 0, 1, 1, 3), PLACE);
        check.due("sums that run over", x.copy(0, Integer.MAX_VALUE, 1, 0, Integer.MAX_VALUE), PLACE);
        check.due("lanes", x.copy(0, 0, 2, 0, 1), STORE);
        check.due("status STORE", x.status(), 5);
        check.due("lanes ahead of places", x.copy(0, -1, 2, 0, 1), STORE);
        check.due("a missing", x.copy(3, 0, 0, 0, 1), NULL);
        check.due("b missing ahead of lanes", x.copy(2, -1, 3, 0, 1), NULL);
        check.due("a -1", x.copy(-1, 0, 0, 0, 1), MillTalk.BAD);
        check.due("b 8, a missing", x.copy(3, 0, 8, 0, 1), MillTalk.BAD);
        check.due("found: nothing moved", itemOf(x, 1, 0), 2);
    }

    private static void drops() {
        MillTalk x = new MillTalk();
        x.row(5, 1, 7);
        check.due("drop", x.drop(5), 7);
        check.due("count", x.count(0), 0);
        check.due("drop again", x.drop(5), NULL);
        check.due("status", x.status(), 1);
        check.due("drop -1", x.drop(-1), MillTalk.BAD);
        check.due("drop 8", x.drop(8), MillTalk.BAD);
        x.row(5, 1, 0);
        check.due("drop none", x.drop(5), 0);
        check.due("status 0", x.status(), 0);
    }

    private static void refusalsKeepStatus() {
        MillTalk x = new MillTalk();
        x.set(0, 0, 0);
        x.row(8, 0, 0);
        x.drop(9);
        x.copy(9, 0, 0, 0, 0);
        x.set(9, 0, 0);
        x.as(0, 0);
        x.who(0, 0, 0, 0, 1);
        x.gusts(0, 0, 0, 0, 1);
        x.cap();
        x.feed(1);
        check.due("status is the latest finding", x.status(), 1);
    }
}
