/** What the tests share: answers compared with those that are due, and texts fed. */
final class Check {
    private int wrong;

    void due(String call, long got, long want) {
        if (got != want) {
            wrong++;
            System.out.println(call + " answered " + got + ", due is " + want);
        }
    }

    void same(String what, String got, String want) {
        if (!got.equals(want)) {
            wrong++;
            System.out.println(what + ": there is\n  " + got + "\ndue is\n  " + want);
        }
    }

    /** Feeds a text and reads it: what level() answers. */
    static int tell(MillTalk x, String text) {
        for (int i = 0; i < text.length(); i++) {
            x.feed(text.charAt(i));
        }
        return x.level();
    }

    static MillTalk told(String text) {
        MillTalk x = new MillTalk();
        int answer = tell(x, text);
        if (answer < 0) {
            throw new IllegalStateException("the test's own text has a fault: " + text + " " + answer);
        }
        return x;
    }

    /** A row of ints with these items. */
    static void fill(MillTalk x, int row, int... items) {
        x.row(row, 2, items.length);
        for (int i = 0; i < items.length; i++) {
            x.set(row, i, items[i]);
        }
    }

    /**
     * The items of a row, each as the cell that it names, -1 for another number: no call but who() and gusts()
     * reads an item, so the level becomes one where a sea rests in a calm.
     */
    static String items(MillTalk x, int row, int n) {
        tell(x, "m15,0,0;w2;s5,1;");
        StringBuilder items = new StringBuilder();
        for (int i = 0; i < n; i++) {
            int start = x.who(0, 1, row, i, 1);
            items.append(start <= 0 ? -1 : Integer.numberOfTrailingZeros(start)).append(' ');
        }
        return items.toString().trim();
    }

    void end() {
        System.out.println(wrong == 0 ? "all answers are as due" : wrong + " answers are not as due");
        if (wrong != 0) {
            System.exit(1);
        }
    }
}
