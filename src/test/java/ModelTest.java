import java.util.Random;

/** All promises: long runs of drawn calls, each answer compared with the model's. */
public final class ModelTest {
    private static final int RUNS = 500, CALLS = 250;
    private static final Check check = new Check();
    private final Random random;
    private final MillTalk x = new MillTalk();
    private final Model y = new Model();
    private final String run;

    private ModelTest(int seed) {
        random = new Random(seed);
        run = "run " + seed + ": ";
    }

    public static void main(String[] args) {
        for (int seed = 0; seed < RUNS; seed++) {
            new ModelTest(seed).go();
        }
        check.end();
    }

    private void go() {
        if (random.nextInt(10) > 0) {
            tellText();
        }
        for (int i = 0; i < CALLS; i++) {
            call();
            same("status", x.status(), y.status());
            same("acts", x.count(6), y.count(6));
        }
    }

    private void same(String call, long got, long want) {
        check.due(run + call, got, want);
    }

    /** Mostly within the bounds, at times just beyond, at times far from them. */
    private int near(int least, int most) {
        int draw = random.nextInt(60);
        if (draw == 0) {
            return least - 1;
        }
        if (draw == 1) {
            return most + 1;
        }
        if (draw == 2) {
            return new int[] {Integer.MIN_VALUE, Integer.MAX_VALUE, -1, 0}[random.nextInt(4)];
        }
        return least + random.nextInt(most - least + 1);
    }

    private int sound() {
        return near(0, Math.max(0, x.count(1) - 1));
    }

    private int wind() {
        return near(0, Math.max(0, x.count(2) - 1));
    }

    private int cell() {
        return near(0, Math.max(0, x.stand(0) - 1));
    }

    private void tellText() {
        StringBuilder text = new StringBuilder();
        int cells = 5 + random.nextInt(11);
        text.append("m").append(cells).append(",").append(random.nextInt(cells)).append(",");
        text.append(random.nextInt(5)).append(";");
        int winds = 1 + random.nextInt(random.nextInt(10) == 0 ? 7 : 6);
        for (int i = 0; i < winds; i++) {
            text.append("w").append(random.nextInt(5)).append(";");
        }
        int sounds = 1 + random.nextInt(random.nextInt(10) == 0 ? 7 : 6);
        for (int i = 0; i < sounds; i++) {
            text.append("vbhds".charAt(random.nextInt(5))).append(random.nextInt(cells)).append(",");
            text.append(1 + random.nextInt(random.nextBoolean() ? 20 : 4)).append(";");
        }
        if (random.nextInt(3) == 0) {
            spoil(text);
        }
        for (int i = 0; i < text.length(); i++) {
            same("feed", x.feed(text.charAt(i)), y.feed(text.charAt(i)));
        }
        same("level " + text, x.level(), y.level());
        same("fault " + text, x.fault(), y.fault());
    }

    private void spoil(StringBuilder text) {
        String signs = "mwvbhds,;0123456789 A" + (char) 0 + (char) 255 + "`{/:";
        int place = random.nextInt(text.length());
        char sign = signs.charAt(random.nextInt(signs.length()));
        switch (random.nextInt(4)) {
            case 0 -> text.setCharAt(place, sign);
            case 1 -> text.insert(place, sign);
            case 2 -> text.deleteCharAt(place);
            default -> text.setLength(place);
        }
    }

    private void call() {
        switch (random.nextInt(8)) {
            case 0 -> rowCall();
            case 1 -> toldCall();
            case 2, 3 -> actCall();
            case 4 -> askCall();
            case 5 -> hearCall();
            default -> foretoldCall();
        }
    }

    private void rowCall() {
        int a = near(0, 7);
        int b = near(0, 2);
        int i = near(0, 39);
        int v = random.nextInt(3) == 0 ? random.nextInt() : near(-200, 70000);
        switch (random.nextInt(4)) {
            case 0 -> same("row " + a + " " + b + " " + i, x.row(a, b, i), y.row(a, b, i));
            case 1 -> same("set " + a + " " + i + " " + v, x.set(a, i, v), y.set(a, i, v));
            case 2 -> {
                int j = near(0, 5);
                int k = near(0, 5);
                int n = near(0, 10);
                same("copy", x.copy(a, j, b, k, n), y.copy(a, j, b, k, n));
            }
            default -> same("drop " + a, x.drop(a), y.drop(a));
        }
    }

    private void toldCall() {
        int draw = random.nextInt(12);
        if (draw == 0) {
            tellText();
        } else if (draw < 3) {
            int letter = near(0, 255);
            same("feed " + letter, x.feed(letter), y.feed(letter));
        } else if (draw == 3) {
            same("level", x.level(), y.level());
        } else if (draw == 4) {
            same("fault", x.fault(), y.fault());
        } else if (draw < 8) {
            int undone = 1 + random.nextInt(3);
            for (int i = 0; i < undone; i++) {
                same("undo", x.undo(), y.undo());
            }
        } else if (draw < 10) {
            int k = near(0, 1);
            same("image " + k, x.image(k), y.image(k));
        } else {
            int k = near(0, 1);
            same("restore " + k, x.restore(k), y.restore(k));
        }
    }

    private void actCall() {
        switch (random.nextInt(5)) {
            case 0 -> {
                int n = random.nextInt(8) == 0 ? near(1, 24) : near(1, 3);
                same("hours " + n, x.hours(n), y.hours(n));
            }
            case 1 -> same("cap", x.cap(), y.cap());
            case 2 -> {
                int w = wind();
                int v = near(0, 4);
                same("wind " + w + " " + v, x.wind(w, v), y.wind(w, v));
            }
            case 3 -> {
                int s = sound();
                int c = cell();
                int loud = near(1, 20);
                same("loose " + s + " " + c + " " + loud, x.loose(s, c, loud), y.loose(s, c, loud));
            }
            default -> {
                int n = random.nextInt(4) == 0 ? near(1, 999) : near(1, 9);
                same("sell " + n, x.sell(n), y.sell(n));
            }
        }
    }

    private void askCall() {
        int s = sound();
        int what = near(0, 6);
        int ask = near(0, 1);
        switch (random.nextInt(7)) {
            case 0 -> same("kind " + s, x.kind(s), y.kind(s));
            case 1 -> same("as " + s + " " + what, x.as(s, what), y.as(s, what));
            case 2 -> {
                same("ask " + s + " " + ask, x.ask(s, ask), y.ask(s, ask));
                for (int i = -1; i < 18; i++) {
                    same("trace " + i, x.trace(i), y.trace(i));
                }
            }
            case 3 -> same("count " + what, x.count(what + 1), y.count(what + 1));
            case 4 -> same("sound " + s + " " + what, x.sound(s, what / 2), y.sound(s, what / 2));
            case 5 -> same("stand " + what, x.stand(what), y.stand(what));
            default -> {
                int n = near(0, 60);
                same("gust " + n, x.gust(n), y.gust(n));
            }
        }
    }

    /** A row with what is true of some sound, at times with one item spoiled. */
    private void hearCall() {
        int s = sound();
        int n = random.nextInt(5) == 0 ? near(1, 12) : near(1, 3);
        int row = random.nextInt(10) == 0 ? near(0, 7) : 0;
        int from = near(0, 1);
        same("row", x.row(0, 0, 14), y.row(0, 0, 14));
        for (int t = 0; t < 13; t++) {
            int cell = x.ahead(s, t + 1, 0);
            int item = random.nextInt(8) == 0 ? random.nextInt(15) : cell == MillTalk.NONE ? 99 : cell;
            same("set", x.set(0, t + 1, item), y.set(0, t + 1, item));
        }
        int i = from == 1 ? 1 : near(0, 14);
        int which = near(0, 1);
        same("who " + s + " " + which, x.who(s, which, row, i, n), y.who(s, which, row, i, n));
        int w = random.nextInt(3) == 0 ? -1 : wind();
        same("gusts " + w + " " + s, x.gusts(w, s, row, i, n), y.gusts(w, s, row, i, n));
    }

    private void foretoldCall() {
        int s = sound();
        int n = near(0, 60);
        int two = near(0, 1);
        int three = near(0, 2);
        int few = near(1, random.nextInt(4) == 0 ? 8 : 4);
        switch (random.nextInt(11)) {
            case 0 -> same("ahead " + s + " " + n + " " + three, x.ahead(s, n, three), y.ahead(s, n, three));
            case 1 -> same("meal " + n, x.meal(n), y.meal(n));
            case 2 -> same("when " + s, x.when(s, two + 1), y.when(s, two + 1));
            case 3 -> {
                int k = near(-2, 8);
                same("caps " + few + " " + k, x.caps(few, k), y.caps(few, k));
            }
            case 4 -> {
                int set = near(0, (1 << x.count(1)) - 1);
                same("had " + set + " " + few, x.had(set, few), y.had(set, few));
            }
            case 5 -> same("site " + n, x.site(n / 2, two), y.site(n / 2, two));
            case 6 -> {
                int v = random.nextInt(3) == 0 ? near(0, 120) : near(0, 30);
                same("sack " + v + " " + three, x.sack(v, three), y.sack(v, three));
            }
            case 7 -> {
                int v = near(0, 999);
                same("share " + s + " " + v, x.share(s, v), y.share(s, v));
            }
            case 8 -> {
                int m = near(1, 20);
                int turns = near(0, 4);
                same("byTurns " + turns + " " + m, x.byTurns(turns, m), y.byTurns(turns, m));
            }
            case 9 -> {
                int p = near(0, 10);
                same("calm " + s + " " + n + " " + p, x.calm(s, n, p, two), y.calm(s, n, p, two));
            }
            default -> {
                int seed = near(1, 999999);
                same("drawn " + n + " " + seed, x.drawn(n, seed, two), y.drawn(n, seed, two));
            }
        }
    }
}
