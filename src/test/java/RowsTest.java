/** Terms, part 1 (ROWS), promises 1 to 5, and 38 for these calls: a test for each sentence. */
public final class RowsTest {
    private static final int BAD = MillTalk.BAD;
    private static final int NULL = -1000011, PLACE = -1000012, SIZE = -1000014, STORE = -1000015;
    private static final int FAR_UP = Integer.MAX_VALUE, FAR_DOWN = Integer.MIN_VALUE;
    private static final Check check = new Check();

    public static void main(String[] args) {
        aNewObjectHasNoLevel();
        rowsAreMissingAtFirst();
        thereAreEightRows();
        thereAreThreeLanes();
        fortyItemsAtMost();
        aRowMayHaveNoItems();
        fewerItemsThanNone();
        aBadRowIsToldAheadOfItsSize();
        itemsAreZeroAtFirst();
        aRowComesInPlaceOfWhatIsThere();
        bytesWrap();
        shortsWrap();
        intsDoNotWrap();
        theItemIsWhatWasAnswered();
        placesOfARowEnd();
        aMissingRowIsToldAheadOfItsPlaces();
        copiesGoFromPlaceToPlace();
        copiesOntoItselfAreAsTheyWereAhead();
        aCopyOfNone();
        copiesEndWithBothRows();
        copiesHaveNoPlaceBelow0();
        copiesOfFarNumbers();
        copiesNeedOneLane();
        findingsOfACopyInTime();
        aCopyThatIsFoundMovesNothing();
        droppedRowsAreMissing();
        whatDropCounts();
        statusIsOfTheLatestCallWithARow();
        statusStaysWhenACallIsBad();
        statusStaysInOtherCalls();
        check.end();
    }

    /** "No LEVEL." */
    private static void aNewObjectHasNoLevel() {
        MillTalk x = new MillTalk();
        check.due("new: stand", x.stand(0), MillTalk.STATE);
        check.due("new: sound", x.sound(0, 0), BAD);
        check.due("new: undo", x.undo(), MillTalk.STATE);
        check.due("new: restore", x.restore(0), MillTalk.STATE);
        for (int what = 0; what < 8; what++) {
            check.due("new: count " + what, x.count(what), 0);
        }
        check.due("new: status", x.status(), 0);
        check.due("new: fault", x.fault(), 0);
        check.due("new: trace", x.trace(0), MillTalk.NONE);
    }

    /** "ROWS 0 .. 7 are missing (at first)" */
    private static void rowsAreMissingAtFirst() {
        MillTalk x = Check.told("m15,0,0;w2;s5,1;");
        x.row(0, 0, 1);
        x.drop(0);
        for (int row = 0; row < 8; row++) {
            check.due("missing: set " + row, x.set(row, 0, 1), NULL);
            check.due("missing: copy from " + row, x.copy(row, 0, row, 0, 0), NULL);
            check.due("missing: drop " + row, x.drop(row), NULL);
            check.due("missing: who " + row, x.who(0, 0, row, 0, 1), NULL);
            check.due("missing: gusts " + row, x.gusts(0, 0, row, 0, 1), NULL);
        }
        check.due("missing: count", x.count(0), 0);
    }

    /** "ROWS 0 .. 7", "BAD: ROW" of promises 2 to 5. */
    private static void thereAreEightRows() {
        MillTalk x = new MillTalk();
        for (int row = 0; row < 8; row++) {
            check.due("row " + row, x.row(row, 2, 1), 1);
            check.due("rows", x.count(0), row + 1);
        }
        check.due("set 0", x.set(0, 0, 1), 1);
        check.due("set 7", x.set(7, 0, 1), 1);
        check.due("copy 0 to 7", x.copy(0, 0, 7, 0, 1), 1);
        check.due("copy 7 to 0", x.copy(7, 0, 0, 0, 1), 1);
        for (int row : new int[] {-1, 8, FAR_UP, FAR_DOWN}) {
            check.due("no row " + row, x.row(row, 2, 1), BAD);
            check.due("no row: set " + row, x.set(row, 0, 1), BAD);
            check.due("no row: copy from " + row, x.copy(row, 0, 0, 0, 1), BAD);
            check.due("no row: copy to " + row, x.copy(0, 0, row, 0, 1), BAD);
            check.due("no row: drop " + row, x.drop(row), BAD);
        }
        check.due("drop 0", x.drop(0), 1);
        check.due("drop 7", x.drop(7), 1);
        check.due("rows", x.count(0), 6);
    }

    /** "a LANE (0 bytes, 1 shorts, 2 ints)", "BAD: .. LANE" of promise 2. */
    private static void thereAreThreeLanes() {
        MillTalk x = new MillTalk();
        int[] of70000 = {112, 4464, 70000};
        for (int lane = 0; lane < 3; lane++) {
            check.due("lane " + lane, x.row(lane, lane, 1), 1);
            check.due("70000 in lane " + lane, x.set(lane, 0, 70000), of70000[lane]);
        }
        check.due("lane -1", x.row(0, -1, 1), BAD);
        check.due("lane 3", x.row(0, 3, 1), BAD);
        check.due("lane far up", x.row(0, FAR_UP, 1), BAD);
        check.due("lane far down", x.row(0, FAR_DOWN, 1), BAD);
    }

    /** "0 to 40 ITEMS", "BAD: .. n above 40" of promise 2. */
    private static void fortyItemsAtMost() {
        MillTalk x = new MillTalk();
        check.due("40 items", x.row(0, 2, 40), 40);
        check.due("the 40th", x.set(0, 39, 7), 7);
        check.due("no 41st", x.set(0, 40, 7), PLACE);
        check.due("41 items", x.row(0, 2, 41), BAD);
        check.due("items far up", x.row(1, 2, FAR_UP), BAD);
        check.due("refused: the row stays", x.drop(0), 40);
        check.due("refused: none is made", x.drop(1), NULL);
    }

    /** "0 to 40 ITEMS": the least. */
    private static void aRowMayHaveNoItems() {
        MillTalk x = new MillTalk();
        check.due("0 items", x.row(4, 0, 0), 0);
        check.due("it is there", x.count(0), 1);
        check.due("it has no place 0", x.set(4, 0, 0), PLACE);
        check.due("none of it is copied", x.copy(4, 0, 4, 0, 0), 0);
        check.due("one of it is not", x.copy(4, 0, 4, 0, 1), PLACE);
        check.due("dropped it had none", x.drop(4), 0);
    }

    /** "SIZE (fewer than none)" */
    private static void fewerItemsThanNone() {
        MillTalk x = new MillTalk();
        check.due("-1 items", x.row(1, 0, -1), SIZE);
        check.due("status SIZE", x.status(), 4);
        check.due("none is made", x.count(0), 0);
        Check.fill(x, 1, 3, 5);
        check.due("items far down", x.row(1, 0, FAR_DOWN), SIZE);
        check.same("found: the row stays", Check.items(x, 1, 2), "3 5");
    }

    /** "BAD: ROW, LANE, n above 40; SIZE." in this order. */
    private static void aBadRowIsToldAheadOfItsSize() {
        MillTalk x = new MillTalk();
        check.due("row 8 with -1 items", x.row(8, 0, -1), BAD);
        check.due("row -1 with -1 items", x.row(-1, 0, -1), BAD);
        check.due("lane 3 with -1 items", x.row(0, 3, -1), BAD);
        check.due("lane -1 with -1 items", x.row(0, -1, -1), BAD);
        check.due("status stays", x.status(), 0);
    }

    /** "ITEMS, 0 at first" */
    private static void itemsAreZeroAtFirst() {
        MillTalk x = new MillTalk();
        x.row(0, 0, 40);
        StringBuilder zeros = new StringBuilder("0");
        for (int i = 1; i < 40; i++) {
            zeros.append(" 0");
        }
        check.same("40 at first", Check.items(x, 0, 40), zeros.toString());
    }

    /** "A ROW of a LANE with n ITEMS, in place of what is there" */
    private static void aRowComesInPlaceOfWhatIsThere() {
        MillTalk x = new MillTalk();
        Check.fill(x, 7, 1, 2, 3);
        check.due("shorter", x.row(7, 2, 1), 1);
        check.due("no second place", x.set(7, 1, 0), PLACE);
        check.due("as long as it was", x.row(7, 2, 3), 3);
        check.due("one row still", x.count(0), 1);
        check.due("of another lane", x.row(6, 0, 1) + x.row(6, 2, 1), 2);
        check.due("no byte any more", x.set(6, 0, 300), 300);
        check.same("what was there is gone", Check.items(x, 7, 3), "0 0 0");
    }

    /** "ITEM i becomes v, its lowest bits, as many as the LANE has: what it is then": 8 of a byte. */
    private static void bytesWrap() {
        MillTalk x = new MillTalk();
        x.row(0, 0, 1);
        int[][] pairs = {{0, 0}, {127, 127}, {128, -128}, {255, -1}, {256, 0}, {355, 99}, {-1, -1}, {-128, -128},
            {-129, 127}, {65537, 1}, {FAR_UP, -1}, {FAR_DOWN, 0}};
        for (int[] pair : pairs) {
            check.due("byte " + pair[0], x.set(0, 0, pair[0]), pair[1]);
        }
    }

    /** The same of a short: 16. */
    private static void shortsWrap() {
        MillTalk x = new MillTalk();
        x.row(0, 1, 1);
        int[][] pairs = {{0, 0}, {128, 128}, {32767, 32767}, {32768, -32768}, {65535, -1}, {65536, 0}, {-1, -1},
            {-32768, -32768}, {-32769, 32767}, {FAR_UP, -1}, {FAR_DOWN, 0}};
        for (int[] pair : pairs) {
            check.due("short " + pair[0], x.set(0, 0, pair[0]), pair[1]);
        }
    }

    /** The same of an int: all 32. */
    private static void intsDoNotWrap() {
        MillTalk x = new MillTalk();
        x.row(0, 2, 1);
        for (int v : new int[] {0, -1, 32768, 65536, FAR_UP, FAR_DOWN}) {
            check.due("int " + v, x.set(0, 0, v), v);
        }
    }

    /** "what it is then": who() finds 5 in a byte that was set to 261, nothing in an int. */
    private static void theItemIsWhatWasAnswered() {
        MillTalk x = new MillTalk();
        for (int lane = 0; lane < 3; lane++) {
            x.row(lane, lane, 2);
            x.set(lane, 1, 65541);
        }
        check.same("byte", Check.items(x, 0, 2), "0 5");
        check.same("short", Check.items(x, 1, 2), "0 5");
        check.same("int", Check.items(x, 2, 2), "0 -1");
    }

    /** "PLACE (no such place of a ROW)" of promise 3. */
    private static void placesOfARowEnd() {
        MillTalk x = new MillTalk();
        x.row(0, 2, 3);
        check.due("place 0", x.set(0, 0, 4), 4);
        check.due("place 2", x.set(0, 2, 6), 6);
        check.due("place -1", x.set(0, -1, 9), PLACE);
        check.due("status PLACE", x.status(), 2);
        check.due("place 3", x.set(0, 3, 9), PLACE);
        check.due("place far up", x.set(0, FAR_UP, 9), PLACE);
        check.due("place far down", x.set(0, FAR_DOWN, 9), PLACE);
        check.same("found: nothing is set", Check.items(x, 0, 3), "4 0 6");
    }

    /** "BAD: ROW; NULL; PLACE." in this order. */
    private static void aMissingRowIsToldAheadOfItsPlaces() {
        MillTalk x = new MillTalk();
        check.due("missing, place -1", x.set(3, -1, 0), NULL);
        check.due("status NULL", x.status(), 1);
        check.due("no row, place -1", x.set(8, -1, 0), BAD);
        check.due("a row that was dropped", x.row(3, 0, 9) + x.drop(3) + x.set(3, 0, 0), 18 + NULL);
    }

    /** "n ITEMS of a from i on come to b from j on: n." */
    private static void copiesGoFromPlaceToPlace() {
        MillTalk x = new MillTalk();
        Check.fill(x, 0, 1, 2, 3, 4, 5);
        x.row(1, 2, 6);
        check.due("copy", x.copy(0, 1, 1, 2, 3), 3);
        check.same("copied", Check.items(x, 1, 6), "0 0 2 3 4 0");
        check.same("there still", Check.items(x, 0, 5), "1 2 3 4 5");
    }

    /** "as they were ahead" */
    private static void copiesOntoItselfAreAsTheyWereAhead() {
        MillTalk x = new MillTalk();
        Check.fill(x, 0, 1, 2, 3, 4, 5);
        check.due("up", x.copy(0, 0, 0, 1, 4), 4);
        check.same("up", Check.items(x, 0, 5), "1 1 2 3 4");
        check.due("down", x.copy(0, 2, 0, 0, 3), 3);
        check.same("down", Check.items(x, 0, 5), "2 3 4 3 4");
        check.due("all in its place", x.copy(0, 0, 0, 0, 5), 5);
        check.same("all in its place", Check.items(x, 0, 5), "2 3 4 3 4");
    }

    /** A copy of 0 ITEMS has its places at the ends, too, but not beyond. */
    private static void aCopyOfNone() {
        MillTalk x = new MillTalk();
        Check.fill(x, 0, 1, 2, 3);
        Check.fill(x, 1, 4, 5);
        check.due("at the ends", x.copy(0, 3, 1, 2, 0), 0);
        check.due("beyond a's end", x.copy(0, 4, 1, 2, 0), PLACE);
        check.due("beyond b's end", x.copy(0, 3, 1, 3, 0), PLACE);
        check.same("nothing moved", Check.items(x, 1, 2), "4 5");
    }

    /** "PLACE (.. beyond an end)" */
    private static void copiesEndWithBothRows() {
        MillTalk x = new MillTalk();
        Check.fill(x, 0, 1, 2, 3);
        Check.fill(x, 1, 4, 5);
        check.due("to both ends", x.copy(0, 1, 1, 0, 2), 2);
        check.due("beyond a's", x.copy(0, 2, 1, 0, 2), PLACE);
        check.due("beyond b's", x.copy(0, 0, 1, 1, 2), PLACE);
        check.due("more than b has", x.copy(0, 0, 1, 0, 3), PLACE);
        check.due("more than a has", x.copy(1, 0, 0, 0, 3), PLACE);
        check.due("status PLACE", x.status(), 2);
    }

    /** "PLACE (i, j, n below 0 ..)" */
    private static void copiesHaveNoPlaceBelow0() {
        MillTalk x = new MillTalk();
        Check.fill(x, 0, 1, 2, 3);
        check.due("i -1", x.copy(0, -1, 0, 0, 1), PLACE);
        check.due("j -1", x.copy(0, 0, 0, -1, 1), PLACE);
        check.due("n -1", x.copy(0, 1, 0, 1, -1), PLACE);
        check.due("i -1 of none", x.copy(0, -1, 0, 0, 0), PLACE);
        check.due("j -1 of none", x.copy(0, 0, 0, -1, 0), PLACE);
    }

    /** Sums that would run over are beyond the end all the same. */
    private static void copiesOfFarNumbers() {
        MillTalk x = new MillTalk();
        Check.fill(x, 0, 1, 2, 3);
        check.due("i and n far up", x.copy(0, FAR_UP, 0, 0, FAR_UP), PLACE);
        check.due("j and n far up", x.copy(0, 0, 0, FAR_UP, FAR_UP), PLACE);
        check.due("i far up", x.copy(0, FAR_UP, 0, 0, 1), PLACE);
        check.due("j far up", x.copy(0, 0, 0, FAR_UP, 1), PLACE);
        check.due("n far up", x.copy(0, 1, 0, 1, FAR_UP), PLACE);
        check.due("i far down", x.copy(0, FAR_DOWN, 0, 0, 1), PLACE);
        check.due("n far down", x.copy(0, 0, 0, 0, FAR_DOWN), PLACE);
        check.due("all far down", x.copy(0, FAR_DOWN, 0, FAR_DOWN, FAR_DOWN), PLACE);
    }

    /** "STORE (ROWS of two LANES)" */
    private static void copiesNeedOneLane() {
        MillTalk x = new MillTalk();
        for (int lane = 0; lane < 3; lane++) {
            x.row(lane, lane, 1);
            x.row(lane + 3, lane, 1);
        }
        for (int a = 0; a < 3; a++) {
            for (int b = 0; b < 3; b++) {
                check.due("lanes " + a + " " + b, x.copy(a, 0, b + 3, 0, 1), a == b ? 1 : STORE);
                check.due("status", x.status(), a == b ? 0 : 5);
            }
        }
        check.due("none of two lanes", x.copy(0, 0, 1, 0, 0), STORE);
    }

    /** "BAD: ROWS; NULL; STORE; PLACE" in this order. */
    private static void findingsOfACopyInTime() {
        MillTalk x = new MillTalk();
        x.row(0, 0, 2);
        x.row(1, 1, 2);
        check.due("places of two lanes", x.copy(0, -1, 1, 9, -1), STORE);
        check.due("a missing, places", x.copy(2, -1, 0, 0, 1), NULL);
        check.due("b missing, places", x.copy(0, -1, 2, 0, 1), NULL);
        check.due("both missing", x.copy(2, 0, 3, 0, 0), NULL);
        check.due("no b, a missing", x.copy(2, 0, 8, 0, 1), BAD);
        check.due("no a, b missing", x.copy(-1, 0, 2, 0, 1), BAD);
        check.due("no b, other places", x.copy(0, -1, 8, 0, 1), BAD);
    }

    /** "What is refused, or found, changes nothing": not even as many as there would be places for. */
    private static void aCopyThatIsFoundMovesNothing() {
        MillTalk x = new MillTalk();
        Check.fill(x, 0, 1, 2, 3);
        Check.fill(x, 1, 4, 5);
        x.copy(0, 0, 1, 0, 3);
        x.copy(0, 2, 1, 0, 2);
        x.copy(0, 0, 1, 0, -1);
        check.same("b is as it was", Check.items(x, 1, 2), "4 5");
    }

    /** "A ROW is missing from now on" */
    private static void droppedRowsAreMissing() {
        MillTalk x = new MillTalk();
        Check.fill(x, 5, 1, 2);
        x.row(6, 2, 3);
        check.due("drop", x.drop(5), 2);
        check.due("the other is there", x.count(0), 1);
        check.due("drop again", x.drop(5), NULL);
        check.due("status NULL", x.status(), 1);
        check.due("set", x.set(5, 0, 0), NULL);
        check.due("copy from", x.copy(5, 0, 6, 0, 1), NULL);
        check.due("copy to", x.copy(6, 0, 5, 0, 1), NULL);
        x.row(5, 2, 2);
        check.same("made anew", Check.items(x, 5, 2), "0 0");
    }

    /** "how many ITEMS it had" */
    private static void whatDropCounts() {
        MillTalk x = new MillTalk();
        for (int n : new int[] {0, 1, 40}) {
            x.row(0, 1, n);
            check.due("drop of " + n, x.drop(0), n);
        }
    }

    /** "Of the latest call with a ROW ..: the number of its FINDING; 0: it had none, or there was none." */
    private static void statusIsOfTheLatestCallWithARow() {
        MillTalk x = new MillTalk();
        check.due("there was none", x.status(), 0);
        x.drop(0);
        check.due("drop found", x.status(), 1);
        x.row(0, 0, 1);
        check.due("row had none", x.status(), 0);
        x.row(1, 0, -1);
        check.due("row found", x.status(), 4);
        x.set(0, 0, 0);
        check.due("set had none", x.status(), 0);
        x.set(0, 1, 0);
        check.due("set found", x.status(), 2);
        x.copy(0, 0, 0, 0, 1);
        check.due("copy had none", x.status(), 0);
        x.row(1, 1, 1);
        x.copy(0, 0, 1, 0, 1);
        check.due("copy found", x.status(), 5);
        x.drop(0);
        check.due("drop had none", x.status(), 0);
    }

    /** ".. that was not BAD, STATE, FULL" */
    private static void statusStaysWhenACallIsBad() {
        MillTalk x = new MillTalk();
        x.set(0, 0, 0);
        x.row(8, 0, 0);
        check.due("behind a bad row", x.status(), 1);
        x.set(9, 0, 0);
        check.due("behind a bad set", x.status(), 1);
        x.copy(9, 0, 0, 0, 0);
        check.due("behind a bad copy", x.status(), 1);
        x.drop(9);
        check.due("behind a bad drop", x.status(), 1);
        x.as(0, 0);
        check.due("behind a bad as", x.status(), 1);
        x.who(0, 0, 0, 0, 1);
        check.due("behind a bad who", x.status(), 1);
        x.gusts(0, 0, 0, 0, 1);
        check.due("behind a bad gusts", x.status(), 1);
    }

    /** Calls without a ROW have no part in it. */
    private static void statusStaysInOtherCalls() {
        MillTalk x = new MillTalk();
        x.set(0, 0, 0);
        Check.tell(x, "m5,0,0;w2;v0,1;");
        x.hours(1);
        x.cap();
        x.wind(0, 3);
        x.sell(1);
        x.undo();
        x.sound(0, 0);
        x.ahead(0, 1, 0);
        x.kind(0);
        x.ask(0, 0);
        x.image(0);
        x.restore(0);
        x.status();
        check.due("status is the latest finding", x.status(), 1);
    }
}
