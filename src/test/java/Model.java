import java.math.BigInteger;
import java.util.ArrayList;
import java.util.Arrays;
import java.util.List;

/**
 * The document written down a second time, in another way (copies of everything, brute force, the Java
 * library), so that ModelTest can compare long runs of calls.
 */
final class Model {
    static final int NONE = -1000000, BAD = -1000001, STATE = -1000002, FULL = -1000003;

    record Sound(char sort, int cell, int loud, char how) {
        Sound with(char newHow) {
            return new Sound(sort, cell, loud, newHow);
        }
    }

    static final class World {
        int cells;
        int mill;
        int reach;
        int cap = 1;
        int hour;
        int meal;
        List<Integer> winds = new ArrayList<>();
        List<Sound> sounds = new ArrayList<>();

        World twin() {
            World w = new World();
            w.cells = cells;
            w.mill = mill;
            w.reach = reach;
            w.cap = cap;
            w.hour = hour;
            w.meal = meal;
            w.winds = new ArrayList<>(winds);
            w.sounds = new ArrayList<>(sounds);
            return w;
        }

        int wind(int on) {
            return winds.get((hour + on) % winds.size());
        }

        int drift(Sound s) {
            int up = wind(0) - 2;
            return switch (s.sort) {
                case 'v' -> up;
                case 'b' -> up == 2 ? 1 : up == -2 ? -1 : 0;
                case 'h' -> up + up;
                case 'd' -> 0 - up;
                default -> 0;
            };
        }

        World later(int hours) {
            World w = twin();
            for (int i = 0; i < hours; i++) {
                w.oneHour();
            }
            return w;
        }

        void oneHour() {
            List<Sound> drifted = new ArrayList<>();
            for (Sound s : sounds) {
                drifted.add(drifted(s));
            }
            List<Integer> taken = new ArrayList<>();
            for (int far = 0; far <= reach; far++) {
                taken.add(cap == 1 ? mill + far : mill - far);
            }
            sounds = new ArrayList<>();
            for (Sound s : drifted) {
                if (wind(0) != 2 && s.how == 'l' && taken.contains(s.cell)) {
                    meal += s.loud;
                    sounds.add(s.with('g'));
                } else {
                    sounds.add(s);
                }
            }
            meal = Math.min(meal, 999);
            hour++;
        }

        private Sound drifted(Sound s) {
            if (s.how != 'l') {
                return s;
            }
            int to = s.cell + drift(s);
            int loud = s.sort == 'd' ? s.loud - 1 : s.sort == 's' ? Math.min(20, s.loud + 1) : s.loud;
            if (to < 0 || to > cells - 1 || loud == 0) {
                return s.with('x');
            }
            return new Sound(s.sort, to, loud, 'l');
        }

        int set(char how) {
            int bits = 0;
            for (int i = 0; i < sounds.size(); i++) {
                if (sounds.get(i).how == how) {
                    bits += 1 << i;
                }
            }
            return bits;
        }
    }

    private static final class Row {
        int lane;
        int[] items;
    }

    private final Row[] rows = new Row[8];
    private final List<Integer> tape = new ArrayList<>();
    private World world;
    private final List<World> acts = new ArrayList<>();
    private final World[] images = new World[2];
    private final List<Integer> trace = new ArrayList<>();
    private int fault;
    private int status;

    private boolean isSound(int s) {
        return world != null && s >= 0 && s < world.sounds.size();
    }

    private static boolean in(int v, int least, int most) {
        return least <= v && v <= most;
    }

    private int found(int number) {
        status = number;
        return -1000010 - number;
    }

    private int fine(int answer) {
        status = 0;
        return answer;
    }

    int row(int row, int lane, int n) {
        if (!in(row, 0, 7) || !in(lane, 0, 2) || n > 40) {
            return BAD;
        }
        if (n < 0) {
            return found(4);
        }
        Row r = new Row();
        r.lane = lane;
        r.items = new int[n];
        rows[row] = r;
        return fine(n);
    }

    int set(int row, int i, int v) {
        if (!in(row, 0, 7)) {
            return BAD;
        }
        if (rows[row] == null) {
            return found(1);
        }
        if (!in(i, 0, rows[row].items.length - 1)) {
            return found(2);
        }
        int lane = rows[row].lane;
        rows[row].items[i] = lane == 0 ? (byte) v : lane == 1 ? (short) v : v;
        return fine(rows[row].items[i]);
    }

    int copy(int a, int i, int b, int j, int n) {
        if (!in(a, 0, 7) || !in(b, 0, 7)) {
            return BAD;
        }
        if (rows[a] == null || rows[b] == null) {
            return found(1);
        }
        if (rows[a].lane != rows[b].lane) {
            return found(5);
        }
        if (i < 0 || j < 0 || n < 0 || (long) i + n > rows[a].items.length || (long) j + n > rows[b].items.length) {
            return found(2);
        }
        int[] taken = Arrays.copyOfRange(rows[a].items, i, i + n);
        for (int k = 0; k < n; k++) {
            rows[b].items[j + k] = taken[k];
        }
        return fine(n);
    }

    int drop(int row) {
        if (!in(row, 0, 7)) {
            return BAD;
        }
        if (rows[row] == null) {
            return found(1);
        }
        int had = rows[row].items.length;
        rows[row] = null;
        return fine(had);
    }

    int feed(int letter) {
        if (!in(letter, 0, 255)) {
            return BAD;
        }
        if (tape.size() == 120) {
            return FULL;
        }
        tape.add(letter);
        return tape.size();
    }

    int level() {
        StringBuilder text = new StringBuilder();
        for (int letter : tape) {
            text.append((char) letter);
        }
        tape.clear();
        ModelText read = new ModelText(text.toString());
        if (read.fault != 0) {
            fault = read.fault;
            return -1000100 - read.place;
        }
        world = read.world;
        acts.clear();
        return world.sounds.size();
    }

    int fault() {
        return fault;
    }

    int undo() {
        if (acts.isEmpty()) {
            return STATE;
        }
        world = acts.remove(acts.size() - 1);
        return acts.size();
    }

    private void act() {
        acts.add(world.twin());
        if (acts.size() > 24) {
            acts.remove(0);
        }
    }

    int hours(int n) {
        if (world == null) {
            return STATE;
        }
        if (!in(n, 1, 24)) {
            return BAD;
        }
        if (world.hour + n > 999) {
            return FULL;
        }
        for (int i = 0; i < n; i++) {
            act();
            world.oneHour();
        }
        return world.meal;
    }

    int cap() {
        if (world == null) {
            return STATE;
        }
        act();
        world.cap ^= 1;
        return world.cap;
    }

    int wind(int wind, int v) {
        if (world == null || !in(wind, 0, world.winds.size() - 1) || !in(v, 0, 4)) {
            return BAD;
        }
        act();
        return world.winds.set(wind, v);
    }

    int loose(int sound, int cell, int loud) {
        if (!isSound(sound) || !in(cell, 0, world.cells - 1) || !in(loud, 1, 20)) {
            return BAD;
        }
        if (world.sounds.get(sound).how == 'l') {
            return STATE;
        }
        act();
        world.sounds.set(sound, new Sound(world.sounds.get(sound).sort, cell, loud, 'l'));
        return world.set('l');
    }

    int sell(int n) {
        if (world == null) {
            return STATE;
        }
        if (!in(n, 1, 999)) {
            return BAD;
        }
        if (n > world.meal) {
            return STATE;
        }
        act();
        return world.meal -= n;
    }

    private static int tell(Sound s, int what) {
        return what == 0 ? (s.how == 'l' ? s.cell : NONE) : what == 1 ? "lgx".indexOf(s.how) : s.loud;
    }

    int sound(int sound, int what) {
        if (!isSound(sound) || !in(what, 0, 3)) {
            return BAD;
        }
        Sound s = world.sounds.get(sound);
        return what == 3 ? world.drift(s) : tell(s, what);
    }

    int stand(int what) {
        if (world == null) {
            return STATE;
        }
        int[] all = {world.cells, world.mill, world.reach, world.cap, world.set('l'), world.set('g'), world.set('x')};
        return in(what, 0, 6) ? all[what] : BAD;
    }

    int gust(int n) {
        return world == null ? STATE : in(n, 0, 60) ? world.wind(n) : BAD;
    }

    int ahead(int sound, int n, int what) {
        if (!isSound(sound) || !in(n, 0, 60) || !in(what, 0, 2)) {
            return BAD;
        }
        return tell(world.later(n).sounds.get(sound), what);
    }

    int meal(int n) {
        return world == null ? STATE : in(n, 0, 60) ? world.later(n).meal : BAD;
    }

    int when(int sound, int how) {
        if (!isSound(sound) || !in(how, 1, 2)) {
            return BAD;
        }
        for (int n = 0; n <= 60; n++) {
            if (world.later(n).sounds.get(sound).how == "lgx".charAt(how)) {
                return n;
            }
        }
        return NONE;
    }

    /** All rows of caps as texts of 0 and 1, the first ones first. */
    private static List<String> capRows(int n) {
        List<String> all = new ArrayList<>(List.of(""));
        for (int i = 0; i < n; i++) {
            List<String> longer = new ArrayList<>();
            for (String row : all) {
                longer.add(row + "0");
                longer.add(row + "1");
            }
            all = longer;
        }
        return all;
    }

    private World under(String row) {
        World w = world.twin();
        for (char c : row.toCharArray()) {
            w.cap = c - '0';
            w.oneHour();
        }
        return w;
    }

    private int turns(String row) {
        String with = world.cap + row;
        int turns = 0;
        for (int i = 1; i < with.length(); i++) {
            turns += with.charAt(i) == with.charAt(i - 1) ? 0 : 1;
        }
        return turns;
    }

    int caps(int n, int k) {
        if (world == null) {
            return STATE;
        }
        if (!in(n, 1, 8) || k < -2) {
            return BAD;
        }
        String best = null;
        for (String row : capRows(n)) {
            if (best == null || under(row).meal > under(best).meal
                    || under(row).meal == under(best).meal && turns(row) < turns(best)) {
                best = row;
            }
        }
        return k == -1 ? under(best).meal : k == -2 ? turns(best) : k < n ? best.charAt(k) - '0' : NONE;
    }

    int had(int sounds, int n) {
        if (world == null) {
            return STATE;
        }
        if (!in(sounds, 0, (1 << world.sounds.size()) - 1) || !in(n, 1, 8)) {
            return BAD;
        }
        int fewest = NONE;
        for (String row : capRows(n)) {
            if ((under(row).set('g') & sounds) == sounds && (fewest == NONE || turns(row) < fewest)) {
                fewest = turns(row);
            }
        }
        return fewest;
    }

    int site(int n, int what) {
        if (world == null) {
            return STATE;
        }
        if (!in(n, 1, 30) || !in(what, 0, 1)) {
            return BAD;
        }
        int[] meals = new int[world.cells];
        for (int c = 0; c < world.cells; c++) {
            World w = world.twin();
            w.mill = c;
            meals[c] = w.later(n).meal;
        }
        int most = Arrays.stream(meals).max().getAsInt();
        int first = 0;
        while (meals[first] != most) {
            first++;
        }
        return what == 0 ? first : most;
    }

    int sack(int v, int what) {
        if (world == null) {
            return STATE;
        }
        if (!in(v, 0, 120) || !in(what, 0, 2)) {
            return BAD;
        }
        List<Integer> sets = new ArrayList<>();
        sacks(0, v, 0, sets);
        int all = sets.isEmpty() ? 0 : -1;
        int any = 0;
        for (int set : sets) {
            all &= set;
            any |= set;
        }
        return what == 0 ? sets.size() : what == 1 ? all : any;
    }

    private void sacks(int from, int left, int set, List<Integer> sets) {
        if (from == world.sounds.size()) {
            if (left == 0) {
                sets.add(set);
            }
            return;
        }
        sacks(from + 1, left, set, sets);
        if (world.sounds.get(from).how == 'l') {
            sacks(from + 1, left - world.sounds.get(from).loud, set | 1 << from, sets);
        }
    }

    int share(int sound, int n) {
        if (!isSound(sound) || !in(n, 0, 999)) {
            return BAD;
        }
        List<Integer> who = new ArrayList<>();
        int all = 0;
        for (int i = 0; i < world.sounds.size(); i++) {
            if (world.sounds.get(i).how == 'l') {
                who.add(i);
                all += world.sounds.get(i).loud;
            }
        }
        int[] gets = new int[6];
        int left = n;
        for (int i : who) {
            gets[i] = n * world.sounds.get(i).loud / all;
            left -= gets[i];
        }
        for (int i : who) {
            if (left > 0) {
                gets[i]++;
                left--;
            }
        }
        return gets[sound];
    }

    int byTurns(int n, int m) {
        if (world == null) {
            return STATE;
        }
        return in(n, 0, 4) && in(m, 1, 20) ? game(world, 0, n, m) : BAD;
    }

    private static int game(World w, int turn, int n, int m) {
        if (turn == n) {
            return w.later(m).meal;
        }
        World other = w.twin();
        if (turn % 2 == 0) {
            other.cap = 1 - other.cap;
            return Math.max(game(w, turn + 1, n, m), game(other, turn + 1, n, m));
        }
        other.winds.set(w.hour % w.winds.size(), 4 - w.wind(0));
        return Math.min(game(w, turn + 1, n, m), game(other, turn + 1, n, m));
    }

    private static boolean told(World w, int sound, int[] row) {
        for (int t = 0; t < row.length; t++) {
            Sound s = w.later(t + 1).sounds.get(sound);
            if ((s.how == 'l' ? s.cell : 99) != row[t]) {
                return false;
            }
        }
        return true;
    }

    private int rowRefusal(int sound, int row, int i, int n) {
        if (world.sounds.get(sound).how != 'l') {
            return STATE;
        }
        if (rows[row] == null) {
            return found(1);
        }
        return i < 0 || (long) i + n > rows[row].items.length ? found(2) : 0;
    }

    int who(int sound, int which, int row, int i, int n) {
        if (!isSound(sound) || !in(which, 0, 1) || !in(row, 0, 7) || !in(n, 1, 12)) {
            return BAD;
        }
        int refusal = rowRefusal(sound, row, i, n);
        if (refusal != 0) {
            return refusal;
        }
        int[] heard = Arrays.copyOfRange(rows[row].items, i, i + n);
        Sound s = world.sounds.get(sound);
        int bits = 0;
        for (int v = which == 0 ? 1 : 0; v < (which == 0 ? 6 : world.cells); v++) {
            World w = world.twin();
            w.sounds.set(sound, which == 0 ? new Sound(" vbhds".charAt(v), s.cell, s.loud, 'l')
                    : new Sound(s.sort, v, s.loud, 'l'));
            bits |= told(w, sound, heard) ? 1 << v : 0;
        }
        return fine(bits);
    }

    int gusts(int wind, int sound, int row, int i, int n) {
        if (world == null || !in(wind, -1, world.winds.size() - 1) || !isSound(sound) || !in(row, 0, 7)
                || !in(n, 1, 12)) {
            return BAD;
        }
        int refusal = rowRefusal(sound, row, i, n);
        if (refusal != 0) {
            return refusal;
        }
        int[] heard = Arrays.copyOfRange(rows[row].items, i, i + n);
        int bits = 0;
        for (int v = 0; v <= 4; v++) {
            World w = world.twin();
            if (wind == -1) {
                w.reach = v;
            } else {
                w.winds.set(wind, v);
            }
            bits |= told(w, sound, heard) ? 1 << v : 0;
        }
        return fine(bits);
    }

    long calm(int sound, int n, int p, int what) {
        if (!isSound(sound) || !in(n, 0, 60) || !in(p, 0, 10) || !in(what, 0, 1)) {
            return BAD;
        }
        BigInteger above = likely(world.twin(), 0, sound, n, p);
        BigInteger below = BigInteger.TEN.pow(world.winds.size());
        BigInteger common = above.gcd(below);
        return (what == 0 ? above : below).divide(common).longValueExact();
    }

    private static BigInteger likely(World w, int wind, int sound, int n, int p) {
        if (wind == w.winds.size()) {
            return w.later(n).sounds.get(sound).how == 'g' ? BigInteger.ONE : BigInteger.ZERO;
        }
        World dropped = w.twin();
        dropped.winds.set(wind, 2);
        return likely(dropped, wind + 1, sound, n, p).multiply(BigInteger.valueOf(p))
                .add(likely(w, wind + 1, sound, n, p).multiply(BigInteger.valueOf(10 - p)));
    }

    int drawn(int n, int seed, int what) {
        if (world == null) {
            return STATE;
        }
        if (!in(n, 0, 60) || !in(seed, 1, 999999) || !in(what, 0, 1)) {
            return BAD;
        }
        World w = world.twin();
        BigInteger x = BigInteger.valueOf(seed);
        for (int i = 0; i < n; i++) {
            x = x.multiply(BigInteger.valueOf(16807)).mod(BigInteger.valueOf(Integer.MAX_VALUE));
            int v = x.intValueExact();
            if (v % 3 == 0) {
                w.winds.set(v % w.winds.size(), v % 5);
            }
            w.cap = v % 2;
            int s = v % w.sounds.size();
            if (w.sounds.get(s).how != 'l') {
                w.sounds.set(s, new Sound(w.sounds.get(s).sort, v % w.cells, v % 9 + 1, 'l'));
            }
            w.oneHour();
        }
        return what == 0 ? w.meal - world.meal : Integer.bitCount(w.set('x'));
    }

    int image(int k) {
        if (!in(k, 0, 1)) {
            return BAD;
        }
        if (world == null) {
            return STATE;
        }
        images[k] = world.twin();
        return 1;
    }

    int restore(int k) {
        if (!in(k, 0, 1)) {
            return BAD;
        }
        if (images[k] == null) {
            return STATE;
        }
        world = images[k].twin();
        acts.clear();
        return 1;
    }

    int kind(int one) {
        return isSound(one) ? " vbhds".indexOf(world.sounds.get(one).sort) : BAD;
    }

    int as(int one, int kind) {
        if (!isSound(one) || !in(kind, 0, 5)) {
            return BAD;
        }
        String are = List.of("", "01", "012", "013", "04", "045").get(kind(one));
        return are.contains(String.valueOf(kind)) ? fine(one) : found(3);
    }

    int ask(int one, int what) {
        if (!isSound(one) || !in(what, 0, 1)) {
            return BAD;
        }
        trace.clear();
        Sound s = world.sounds.get(one);
        ModelSound asked = switch (s.sort) {
            case 'v' -> new ModelSound.Voice(one, s, trace);
            case 'b' -> new ModelSound.Band(one, s, trace);
            case 'h' -> new ModelSound.Hare(one, s, trace);
            case 'd' -> new ModelSound.Dutch(one, s, trace);
            default -> new ModelSound.Sea(one, s, trace);
        };
        return what == 0 ? asked.size() : asked.mark();
    }

    int trace(int i) {
        return in(i, 0, Math.min(16, trace.size()) - 1) ? trace.get(i) : NONE;
    }

    int count(int what) {
        World w = world == null ? new World() : world;
        int present = 0;
        for (Row r : rows) {
            present += r == null ? 0 : 1;
        }
        int[] all = {present, w.sounds.size(), w.winds.size(), w.hour, w.meal, Integer.bitCount(w.set('l')),
            acts.size(), tape.size()};
        return in(what, 0, 7) ? all[what] : BAD;
    }

    int status() {
        return status;
    }
}
