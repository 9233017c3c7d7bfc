import java.util.Arrays;

/** A windmill that grinds the sounds which are loose over its level; ../shared/DOC.md is its document. */
public final class MillTalk {
    public static final int NONE = -1000000, BAD = -1000001, STATE = -1000002, FULL = -1000003;

    private static final int FINDINGS = -1000010, FAULTS = -1000100;
    private static final int NULL = 1, PLACE = 2, KIND = 3, SIZE = 4, STORE = 5;
    private static final int LOOSE = 0, GROUND = 1, LOST = 2;
    private static final int SOUND = 0, VOICE = 1, BAND = 2, HARE = 3, DUTCH = 4, SEA = 5;
    private static final int CALM = 2, LAST_WIND = 4, LAST_REACH = 4;
    private static final int MOST_WINDS = 6, MOST_SOUNDS = 6, MOST_CELLS = 15;
    private static final int MOST_LOUD = 20, MOST_MEAL = 999, LAST_HOUR = 999;
    private static final int MOST_FORETOLD = 60, NOT_HEARD = 99;
    /** Of each KIND the next one that it is, too; -1 behind SOUND. */
    private static final int[] NEXT_KIND = {-1, SOUND, VOICE, VOICE, SOUND, DUTCH};

    private final Rows rows = new Rows();
    private final Tape tape = new Tape();
    private final Level now = new Level();
    private final Acts acts = new Acts();
    private final Level[] images = {new Level(), new Level()};
    /** What is tried out in foretelling; each call begins it anew. */
    private final Level trial = new Level();
    private final Play play = new Play();
    private final CapSearch capSearch = new CapSearch();
    private final Asks asks = new Asks();
    private int latestFault;
    private int latestFinding;

    public MillTalk() {
    }

    // ---- rows

    public int row(int row, int lane, int n) {
        if (!Rows.isRow(row) || !Rows.isLane(lane) || n > Rows.MOST_ITEMS) {
            return BAD;
        }
        if (n < 0) {
            return found(SIZE);
        }
        rows.make(row, lane, n);
        return foundNothing(n);
    }

    public int set(int row, int i, int v) {
        if (!Rows.isRow(row)) {
            return BAD;
        }
        int finding = rows.findingOf(row, i, 1);
        if (finding != 0) {
            return found(finding);
        }
        return foundNothing(rows.put(row, i, v));
    }

    public int copy(int a, int i, int b, int j, int n) {
        if (!Rows.isRow(a) || !Rows.isRow(b)) {
            return BAD;
        }
        int finding = rows.findingOfMove(a, i, b, j, n);
        if (finding != 0) {
            return found(finding);
        }
        rows.move(a, i, b, j, n);
        return foundNothing(n);
    }

    public int drop(int row) {
        if (!Rows.isRow(row)) {
            return BAD;
        }
        if (rows.isMissing(row)) {
            return found(NULL);
        }
        return foundNothing(rows.remove(row));
    }

    // ---- what is told

    public int feed(int letter) {
        if (letter < 0 || letter > 255) {
            return BAD;
        }
        if (tape.isFull()) {
            return FULL;
        }
        return tape.append(letter);
    }

    public int level() {
        int fault = tape.read();
        if (fault != 0) {
            latestFault = fault;
            return FAULTS - tape.faultPlace;
        }
        now.becomeLike(tape.told);
        acts.forget();
        return now.soundCount;
    }

    public int fault() {
        return latestFault;
    }

    public int undo() {
        if (acts.size == 0) {
            return STATE;
        }
        acts.takeBack(now);
        return acts.size;
    }

    // ---- what is done

    public int hours(int n) {
        if (!now.isTold()) {
            return STATE;
        }
        if (n < 1 || n > 24) {
            return BAD;
        }
        if (now.hour + n > LAST_HOUR) {
            return FULL;
        }
        for (int t = 0; t < n; t++) {
            acts.keep(now);
            now.pass();
        }
        return now.meal;
    }

    public int cap() {
        if (!now.isTold()) {
            return STATE;
        }
        acts.keep(now);
        now.turnCap();
        return now.cap;
    }

    public int wind(int wind, int v) {
        if (!now.hasWind(wind) || v < 0 || v > LAST_WIND) {
            return BAD;
        }
        int before = now.winds[wind];
        acts.keep(now);
        now.winds[wind] = v;
        return before;
    }

    public int loose(int sound, int cell, int loud) {
        if (!now.hasSound(sound) || !now.hasCell(cell) || loud < 1 || loud > MOST_LOUD) {
            return BAD;
        }
        if (now.isLoose(sound)) {
            return STATE;
        }
        acts.keep(now);
        now.letLoose(sound, cell, loud);
        return now.soundsThatAre(LOOSE);
    }

    public int sell(int n) {
        if (!now.isTold()) {
            return STATE;
        }
        if (n < 1 || n > MOST_MEAL) {
            return BAD;
        }
        if (now.meal < n) {
            return STATE;
        }
        acts.keep(now);
        now.meal -= n;
        return now.meal;
    }

    public int sound(int sound, int what) {
        if (!now.hasSound(sound) || what < 0 || what > 3) {
            return BAD;
        }
        return what == 3 ? now.driftOf(sound, now.windOn(0)) : now.tellOf(sound, what);
    }

    public int stand(int what) {
        if (!now.isTold()) {
            return STATE;
        }
        switch (what) {
            case 0: return now.cells;
            case 1: return now.mill;
            case 2: return now.reach;
            case 3: return now.cap;
            case 4: return now.soundsThatAre(LOOSE);
            case 5: return now.soundsThatAre(GROUND);
            case 6: return now.soundsThatAre(LOST);
            default: return BAD;
        }
    }

    public int gust(int n) {
        if (!now.isTold()) {
            return STATE;
        }
        return isForetold(n) ? now.windOn(n) : BAD;
    }

    // ---- foretold

    public int ahead(int sound, int n, int what) {
        if (!now.hasSound(sound) || !isForetold(n) || what < 0 || what > 2) {
            return BAD;
        }
        trial.becomeLike(now);
        trial.passOnly(sound, n);
        return trial.tellOf(sound, what);
    }

    public int meal(int n) {
        if (!now.isTold()) {
            return STATE;
        }
        if (!isForetold(n)) {
            return BAD;
        }
        trial.becomeLike(now);
        return trial.mealBehind(n);
    }

    public int when(int sound, int how) {
        if (!now.hasSound(sound) || how < GROUND || how > LOST) {
            return BAD;
        }
        trial.becomeLike(now);
        for (int t = 0; t <= MOST_FORETOLD; t++) {
            if (trial.hows[sound] == how) {
                return t;
            }
            trial.passOnly(sound, 1);
        }
        return NONE;
    }

    public int caps(int n, int k) {
        if (!now.isTold()) {
            return STATE;
        }
        if (!CapSearch.isLength(n) || k < -2) {
            return BAD;
        }
        if (k >= n) {
            return NONE;
        }
        capSearch.search(now, n, CapSearch.WANT_MEAL);
        if (k == -1) {
            return capSearch.bestWorth;
        }
        return k == -2 ? capSearch.bestTurns : capSearch.bestCap(k);
    }

    public int had(int sounds, int n) {
        if (!now.isTold()) {
            return STATE;
        }
        if (sounds < 0 || sounds >= 1 << now.soundCount || !CapSearch.isLength(n)) {
            return BAD;
        }
        capSearch.search(now, n, sounds);
        return capSearch.bestWorth == 0 ? NONE : capSearch.bestTurns;
    }

    public int site(int n, int what) {
        if (!now.isTold()) {
            return STATE;
        }
        if (n < 1 || n > 30 || what < 0 || what > 1) {
            return BAD;
        }
        int best = 0;
        int most = -1;
        for (int cell = 0; cell < now.cells; cell++) {
            trial.becomeLike(now);
            trial.mill = cell;
            int meal = trial.mealBehind(n);
            if (meal > most) {
                most = meal;
                best = cell;
            }
        }
        return what == 0 ? best : most;
    }

    public int sack(int v, int what) {
        if (!now.isTold()) {
            return STATE;
        }
        if (v < 0 || v > MOST_SOUNDS * MOST_LOUD || what < 0 || what > 2) {
            return BAD;
        }
        int loose = now.soundsThatAre(LOOSE);
        int sets = 0;
        int inAll = loose;
        int inAny = 0;
        for (int set = 0; set < 1 << now.soundCount; set++) {
            if ((set & ~loose) == 0 && now.loudOf(set) == v) {
                sets++;
                inAll &= set;
                inAny |= set;
            }
        }
        if (what == 0) {
            return sets;
        }
        return what == 2 ? inAny : sets == 0 ? 0 : inAll;
    }

    public int share(int sound, int n) {
        if (!now.hasSound(sound) || n < 0 || n > MOST_MEAL) {
            return BAD;
        }
        int all = now.loudOf(now.soundsThatAre(LOOSE));
        if (!now.isLoose(sound) || all <= 0) {
            return 0;
        }
        int over = n;
        int ahead = 0;
        for (int s = 0; s < now.soundCount; s++) {
            if (now.isLoose(s)) {
                over -= n * now.louds[s] / all;
                ahead += s < sound ? 1 : 0;
            }
        }
        return n * now.louds[sound] / all + (ahead < over ? 1 : 0);
    }

    public int byTurns(int n, int m) {
        if (!now.isTold()) {
            return STATE;
        }
        if (n < 0 || n > Play.MOST_TURNS || m < 1 || m > 20) {
            return BAD;
        }
        return play.comesTo(now, n, m);
    }

    public int who(int sound, int which, int row, int i, int n) {
        if (!now.hasSound(sound) || which < 0 || which > 1 || !isHeard(row, n)) {
            return BAD;
        }
        int refusal = refusalToHear(sound, row, i, n);
        if (refusal != 0) {
            return refusal;
        }
        return foundNothing(which == 0 ? kindsThatFit(sound, row, i, n) : startsThatFit(sound, row, i, n));
    }

    public int gusts(int wind, int sound, int row, int i, int n) {
        if (wind != -1 && !now.hasWind(wind) || !now.hasSound(sound) || !isHeard(row, n)) {
            return BAD;
        }
        int refusal = refusalToHear(sound, row, i, n);
        if (refusal != 0) {
            return refusal;
        }
        return foundNothing(wind == -1 ? reachesThatFit(sound, row, i, n) : windsThatFit(wind, sound, row, i, n));
    }

    public long calm(int sound, int n, int p, int what) {
        if (!now.hasSound(sound) || !isForetold(n) || p < 0 || p > 10 || what < 0 || what > 1) {
            return BAD;
        }
        int above = 0;
        int below = 0;
        for (int dropped = 0; dropped < 1 << now.windCount; dropped++) {
            int cases = casesOf(dropped, p);
            below += cases;
            if (cases > 0 && isGroundIfDropped(sound, n, dropped)) {
                above += cases;
            }
        }
        int common = Math.max(commonDivisor(above, below), 1);
        return (what == 0 ? above : below) / common;
    }

    public int drawn(int n, int seed, int what) {
        if (!now.isTold()) {
            return STATE;
        }
        if (!isForetold(n) || seed < 1 || seed > 999999 || what < 0 || what > 1) {
            return BAD;
        }
        trial.becomeLike(now);
        long x = seed;
        for (int t = 0; t < n; t++) {
            x = x * 16807 % 2147483647;
            trial.takeDraw(x);
            trial.pass();
        }
        // "MEAL of these" is what these HOURS brought, not what stood in the sack ahead of them.
        return what == 0 ? trial.meal - now.meal : Integer.bitCount(trial.soundsThatAre(LOST));
    }

    public int image(int k) {
        if (k < 0 || k >= images.length) {
            return BAD;
        }
        if (!now.isTold()) {
            return STATE;
        }
        images[k].becomeLike(now);
        return 1;
    }

    public int restore(int k) {
        if (k < 0 || k >= images.length) {
            return BAD;
        }
        if (!images[k].isTold()) {
            return STATE;
        }
        now.becomeLike(images[k]);
        acts.forget();
        return 1;
    }

    // ---- asked

    public int kind(int one) {
        return now.hasSound(one) ? now.kinds[one] : BAD;
    }

    public int as(int one, int kind) {
        if (!now.hasSound(one) || kind < SOUND || kind > SEA) {
            return BAD;
        }
        return isOfKind(now.kinds[one], kind) ? foundNothing(one) : found(KIND);
    }

    public int ask(int one, int what) {
        if (!now.hasSound(one) || !Asks.isAsk(what)) {
            return BAD;
        }
        return asks.answer(now, one, what);
    }

    public int trace(int i) {
        return i >= 0 && i < asks.traced ? asks.trace[i] : NONE;
    }

    public int count(int what) {
        switch (what) {
            case 0: return rows.present();
            case 1: return now.soundCount;
            case 2: return now.windCount;
            case 3: return now.hour;
            case 4: return now.meal;
            case 5: return Integer.bitCount(now.soundsThatAre(LOOSE));
            case 6: return acts.size;
            case 7: return tape.size;
            default: return BAD;
        }
    }

    public int status() {
        return latestFinding;
    }

    // ---- what the calls share

    private int found(int finding) {
        latestFinding = finding;
        return FINDINGS - finding;
    }

    private int foundNothing(int answer) {
        latestFinding = 0;
        return answer;
    }

    private static boolean isForetold(int n) {
        return n >= 0 && n <= MOST_FORETOLD;
    }

    private static boolean isHeard(int row, int n) {
        return Rows.isRow(row) && n >= 1 && n <= 12;
    }

    private int refusalToHear(int sound, int row, int i, int n) {
        if (!now.isLoose(sound)) {
            return STATE;
        }
        int finding = rows.findingOf(row, i, n);
        return finding == 0 ? 0 : found(finding);
    }

    private static boolean isOfKind(int kind, int asked) {
        int is = kind;
        for (int steps = 0; steps < NEXT_KIND.length && is >= 0 && is < NEXT_KIND.length; steps++) {
            if (is == asked) {
                return true;
            }
            is = NEXT_KIND[is];
        }
        return false;
    }

    private int kindsThatFit(int sound, int row, int i, int n) {
        int fitting = 0;
        for (int kind = VOICE; kind <= SEA; kind++) {
            trial.becomeLike(now);
            trial.kinds[sound] = kind;
            fitting |= trialFits(sound, row, i, n) ? 1 << kind : 0;
        }
        return fitting;
    }

    private int startsThatFit(int sound, int row, int i, int n) {
        int fitting = 0;
        for (int cell = 0; cell < now.cells; cell++) {
            trial.becomeLike(now);
            trial.places[sound] = cell;
            fitting |= trialFits(sound, row, i, n) ? 1 << cell : 0;
        }
        return fitting;
    }

    private int windsThatFit(int wind, int sound, int row, int i, int n) {
        int fitting = 0;
        for (int v = 0; v <= LAST_WIND; v++) {
            trial.becomeLike(now);
            trial.winds[wind] = v;
            fitting |= trialFits(sound, row, i, n) ? 1 << v : 0;
        }
        return fitting;
    }

    private int reachesThatFit(int sound, int row, int i, int n) {
        int fitting = 0;
        for (int reach = 0; reach <= LAST_REACH; reach++) {
            trial.becomeLike(now);
            trial.reach = reach;
            fitting |= trialFits(sound, row, i, n) ? 1 << reach : 0;
        }
        return fitting;
    }

    private boolean trialFits(int sound, int row, int i, int n) {
        for (int t = 0; t < n; t++) {
            trial.passOnly(sound, 1);
            int heard = trial.isLoose(sound) ? trial.places[sound] : NOT_HEARD;
            if (heard != rows.item(row, i + t)) {
                return false;
            }
        }
        return true;
    }

    /** Of 10 cases a WIND: in how many just these WINDS (bits) drop. */
    private int casesOf(int dropped, int p) {
        int cases = 1;
        for (int w = 0; w < now.windCount; w++) {
            cases *= (dropped >> w & 1) == 1 ? p : 10 - p;
        }
        return cases;
    }

    private boolean isGroundIfDropped(int sound, int n, int dropped) {
        trial.becomeLike(now);
        for (int w = 0; w < trial.windCount; w++) {
            if ((dropped >> w & 1) == 1) {
                trial.winds[w] = CALM;
            }
        }
        trial.passOnly(sound, n);
        return trial.hows[sound] == GROUND;
    }

    private static int commonDivisor(int a, int b) {
        int great = b;
        int small = a;
        // Numbers up to a million are through in some thirty steps.
        for (int steps = 0; steps < 64 && small > 0; steps++) {
            int rest = great % small;
            great = small;
            small = rest;
        }
        return great;
    }

    /** ROWS 0 .. 7; their ITEMS lie in places made once, so that no call makes new ones. */
    private static final class Rows {
        static final int MOST_ROWS = 8, MOST_ITEMS = 40;
        private static final int MISSING = -1, BYTES = 0, SHORTS = 1, INTS = 2;

        private final int[][] items = new int[MOST_ROWS][MOST_ITEMS];
        private final int[] lanes = new int[MOST_ROWS];
        private final int[] lengths = new int[MOST_ROWS];

        Rows() {
            Arrays.fill(lanes, MISSING);
        }

        static boolean isRow(int row) {
            return row >= 0 && row < MOST_ROWS;
        }

        static boolean isLane(int lane) {
            return lane >= BYTES && lane <= INTS;
        }

        boolean isMissing(int row) {
            return lanes[row] == MISSING;
        }

        void make(int row, int lane, int n) {
            lanes[row] = lane;
            lengths[row] = n;
            Arrays.fill(items[row], 0);
        }

        int remove(int row) {
            lanes[row] = MISSING;
            return lengths[row];
        }

        int present() {
            int present = 0;
            for (int row = 0; row < MOST_ROWS; row++) {
                present += isMissing(row) ? 0 : 1;
            }
            return present;
        }

        int findingOf(int row, int i, int n) {
            if (isMissing(row)) {
                return NULL;
            }
            return hasPlaces(row, i, n) ? 0 : PLACE;
        }

        int findingOfMove(int a, int i, int b, int j, int n) {
            if (isMissing(a) || isMissing(b)) {
                return NULL;
            }
            if (lanes[a] != lanes[b]) {
                return STORE;
            }
            return hasPlaces(a, i, n) && hasPlaces(b, j, n) ? 0 : PLACE;
        }

        /** Without a sum, that could run over for great numbers. */
        private boolean hasPlaces(int row, int i, int n) {
            return i >= 0 && n >= 0 && i <= lengths[row] - n;
        }

        int put(int row, int i, int v) {
            int kept = v;
            if (lanes[row] == BYTES) {
                kept = (byte) v;
            } else if (lanes[row] == SHORTS) {
                kept = (short) v;
            }
            items[row][i] = kept;
            return kept;
        }

        int item(int row, int i) {
            return items[row][i];
        }

        void move(int a, int i, int b, int j, int n) {
            System.arraycopy(items[a], i, items[b], j, n);
        }
    }

    /** THE TAPE, and how a LEVEL is read from it: reading goes on behind a FAULT, but only the first is kept. */
    private static final class Tape {
        private static final int MOST_BYTES = 120, END = -1;
        private static final int CANNOT_STAND = 1, BAD_NUMBER = 2, NO_ROOM = 3;

        private final int[] bytes = new int[MOST_BYTES];
        int size;
        final Level told = new Level();
        int faultPlace;
        private int fault;
        private int place;

        boolean isFull() {
            return size >= MOST_BYTES;
        }

        int append(int letter) {
            if (!isFull()) {
                bytes[size] = letter;
                size++;
            }
            return size;
        }

        /** The FAULT, or 0: then told has the LEVEL. The tape is empty in any case. */
        int read() {
            fault = 0;
            faultPlace = 0;
            place = 0;
            told.begin();
            readLaw();
            readWinds();
            readSounds();
            size = 0;
            return fault;
        }

        private void readLaw() {
            readByte('m');
            told.cells = readNumber(5, MOST_CELLS);
            readByte(',');
            told.mill = readNumber(0, told.cells - 1);
            readByte(',');
            told.reach = readNumber(0, LAST_REACH);
            readByte(';');
        }

        private void readWinds() {
            readWind();
            for (int more = 0; more < MOST_WINDS && fault == 0 && byteAt(place) == 'w'; more++) {
                readWind();
            }
        }

        private void readWind() {
            if (fault == 0 && byteAt(place) == 'w' && told.windCount >= MOST_WINDS) {
                fail(NO_ROOM);
            }
            readByte('w');
            int wind = readNumber(0, LAST_WIND);
            readByte(';');
            if (fault == 0) {
                told.winds[told.windCount] = wind;
                told.windCount++;
            }
        }

        private void readSounds() {
            readSound();
            for (int more = 0; more < MOST_SOUNDS && fault == 0 && byteAt(place) != END; more++) {
                readSound();
            }
        }

        private void readSound() {
            int kind = kindOf(byteAt(place));
            if (kind == SOUND) {
                fail(CANNOT_STAND);
            } else if (told.soundCount >= MOST_SOUNDS) {
                fail(NO_ROOM);
            }
            place++;
            int cell = readNumber(0, told.cells - 1);
            readByte(',');
            int loud = readNumber(1, MOST_LOUD);
            readByte(';');
            if (fault == 0) {
                told.kinds[told.soundCount] = kind;
                told.letLoose(told.soundCount, cell, loud);
                told.soundCount++;
            }
        }

        private void readByte(int wanted) {
            if (byteAt(place) == wanted) {
                place++;
            } else {
                fail(CANNOT_STAND);
            }
        }

        private int readNumber(int least, int most) {
            int figures = figuresHere();
            if (figures < 1 || figures > 2) {
                fail(CANNOT_STAND);
                return 0;
            }
            int number = 0;
            for (int f = 0; f < figures; f++) {
                number = number * 10 + byteAt(place + f) - '0';
            }
            if (number < least || number > most) {
                fail(BAD_NUMBER);
                return 0;
            }
            place += figures;
            return number;
        }

        private int figuresHere() {
            int figures = 0;
            while (figures < MOST_BYTES && isFigure(byteAt(place + figures))) {
                figures++;
            }
            return figures;
        }

        /** The place stands at the first byte of a TOKEN whenever this is called without a FAULT. */
        private void fail(int number) {
            if (fault == 0) {
                fault = number;
                faultPlace = place;
            }
        }

        private int byteAt(int i) {
            return i >= 0 && i < size ? bytes[i] : END;
        }

        private static boolean isFigure(int letter) {
            return letter >= '0' && letter <= '9';
        }

        private static int kindOf(int letter) {
            switch (letter) {
                case 'v': return VOICE;
                case 'b': return BAND;
                case 'h': return HARE;
                case 'd': return DUTCH;
                case 's': return SEA;
                default: return SOUND;
            }
        }
    }

    /** A LEVEL with its mill, WINDS and SOUNDS as they are in an HOUR; without CELLS it is none. */
    private static final class Level {
        int cells;
        int mill;
        int reach;
        int cap;
        int hour;
        int meal;
        int windCount;
        int soundCount;
        final int[] winds = new int[MOST_WINDS];
        final int[] kinds = new int[MOST_SOUNDS];
        final int[] places = new int[MOST_SOUNDS];
        final int[] louds = new int[MOST_SOUNDS];
        final int[] hows = new int[MOST_SOUNDS];

        void begin() {
            cells = 0;
            mill = 0;
            reach = 0;
            cap = 1;
            hour = 0;
            meal = 0;
            windCount = 0;
            soundCount = 0;
        }

        void becomeLike(Level other) {
            cells = other.cells;
            mill = other.mill;
            reach = other.reach;
            cap = other.cap;
            hour = other.hour;
            meal = other.meal;
            windCount = other.windCount;
            soundCount = other.soundCount;
            System.arraycopy(other.winds, 0, winds, 0, MOST_WINDS);
            System.arraycopy(other.kinds, 0, kinds, 0, MOST_SOUNDS);
            System.arraycopy(other.places, 0, places, 0, MOST_SOUNDS);
            System.arraycopy(other.louds, 0, louds, 0, MOST_SOUNDS);
            System.arraycopy(other.hows, 0, hows, 0, MOST_SOUNDS);
        }

        boolean isTold() {
            return cells > 0;
        }

        boolean hasCell(int cell) {
            return cell >= 0 && cell < cells;
        }

        boolean hasWind(int wind) {
            return wind >= 0 && wind < windCount;
        }

        boolean hasSound(int sound) {
            return sound >= 0 && sound < soundCount;
        }

        boolean isLoose(int sound) {
            return hows[sound] == LOOSE;
        }

        /** The SOUNDS (bits) that are LOOSE, GROUND or LOST. */
        int soundsThatAre(int how) {
            int set = 0;
            for (int s = 0; s < soundCount; s++) {
                set |= hows[s] == how ? 1 << s : 0;
            }
            return set;
        }

        int loudOf(int set) {
            int loud = 0;
            for (int s = 0; s < soundCount; s++) {
                loud += (set >> s & 1) == 1 ? louds[s] : 0;
            }
            return loud;
        }

        /** Of a SOUND: 0 its CELL, 1 how it is, 2 LOUD. */
        int tellOf(int sound, int what) {
            if (what == 0) {
                return isLoose(sound) ? places[sound] : NONE;
            }
            return what == 1 ? hows[sound] : louds[sound];
        }

        int windOn(int n) {
            return windCount <= 0 ? CALM : winds[(hour + n) % windCount];
        }

        void turnCap() {
            cap = 1 - cap;
        }

        /** The WIND of this HOUR blows the other way from now on; turned twice it is as it was. */
        void turnWind() {
            if (windCount > 0) {
                int w = hour % windCount;
                winds[w] = LAST_WIND - winds[w];
            }
        }

        void letLoose(int sound, int cell, int loud) {
            places[sound] = cell;
            louds[sound] = loud;
            hows[sound] = LOOSE;
        }

        int driftOf(int sound, int wind) {
            int up = wind - CALM;
            switch (kinds[sound]) {
                case VOICE: return up;
                case BAND: return up / 2;
                case HARE: return up * 2;
                case DUTCH: return -up;
                default: return 0;
            }
        }

        private int loudBehindHour(int sound) {
            switch (kinds[sound]) {
                case DUTCH: return louds[sound] - 1;
                case SEA: return Math.min(louds[sound] + 1, MOST_LOUD);
                default: return louds[sound];
            }
        }

        private boolean grindsAt(int cell, int wind) {
            int far = cap == 1 ? cell - mill : mill - cell;
            return wind != CALM && far >= 0 && far <= reach;
        }

        /** No SOUND stands in another's way, so each goes through the HOUR by itself. */
        private void passSound(int sound, int wind) {
            if (!isLoose(sound)) {
                return;
            }
            int cell = places[sound] + driftOf(sound, wind);
            int loud = loudBehindHour(sound);
            if (!hasCell(cell) || loud <= 0) {
                hows[sound] = LOST;
                return;
            }
            letLoose(sound, cell, loud);
            if (grindsAt(cell, wind)) {
                hows[sound] = GROUND;
                meal = Math.min(meal + loud, MOST_MEAL);
            }
        }

        void pass() {
            int wind = windOn(0);
            for (int s = 0; s < soundCount; s++) {
                passSound(s, wind);
            }
            hour++;
        }

        /** For what is foretold of one SOUND: the others, and so MEAL, stay behind. */
        void passOnly(int sound, int n) {
            for (int t = 0; t < n; t++) {
                passSound(sound, windOn(0));
                hour++;
            }
        }

        int mealBehind(int n) {
            for (int t = 0; t < n; t++) {
                pass();
            }
            return meal;
        }

        void takeDraw(long x) {
            if (windCount <= 0 || soundCount <= 0 || cells <= 0) {
                return;
            }
            if (x % 3 == 0) {
                winds[(int) (x % windCount)] = (int) (x % 5);
            }
            cap = (int) (x % 2);
            int sound = (int) (x % soundCount);
            if (!isLoose(sound)) {
                letLoose(sound, (int) (x % cells), (int) (x % 9) + 1);
            }
        }
    }

    /** The LEVELS ahead of the latest ACTS, in a ring: of more the oldest is written over. */
    private static final class Acts {
        private static final int MOST_ACTS = 24;

        private final Level[] before = new Level[MOST_ACTS];
        private int next;
        int size;

        Acts() {
            for (int i = 0; i < MOST_ACTS; i++) {
                before[i] = new Level();
            }
        }

        void forget() {
            size = 0;
        }

        void keep(Level level) {
            before[next].becomeLike(level);
            next = (next + 1) % MOST_ACTS;
            size = Math.min(size + 1, MOST_ACTS);
        }

        void takeBack(Level level) {
            if (size > 0) {
                next = (next + MOST_ACTS - 1) % MOST_ACTS;
                level.becomeLike(before[next]);
                size--;
            }
        }
    }

    /** All rows of CAPS for some HOURS, tried in their order, so that the first of equal ones stays. */
    private static final class CapSearch {
        static final int WANT_MEAL = -1;
        private static final int MOST_HOURS = 8;

        /** The LEVEL behind so many HOURS of the row that is tried. */
        private final Level[] behind = new Level[MOST_HOURS + 1];
        private int hours;
        private int wanted;
        private int bestRow;
        int bestWorth;
        int bestTurns;

        CapSearch() {
            for (int i = 0; i <= MOST_HOURS; i++) {
                behind[i] = new Level();
            }
        }

        static boolean isLength(int n) {
            return n >= 1 && n <= MOST_HOURS;
        }

        /** What is wanted: WANT_MEAL, or SOUNDS (bits): worth 1 if all of these are GROUND, else 0. */
        void search(Level from, int n, int want) {
            hours = n;
            wanted = want;
            bestRow = 0;
            bestWorth = -1;
            bestTurns = 0;
            behind[0].becomeLike(from);
            tryRows(0, 0, 0);
        }

        private void tryRows(int t, int row, int turns) {
            if (t >= hours || t >= MOST_HOURS) {
                judge(behind[t], row, turns);
                return;
            }
            for (int cap = 0; cap <= 1; cap++) {
                Level next = behind[t + 1];
                next.becomeLike(behind[t]);
                int turn = next.cap == cap ? 0 : 1;
                next.cap = cap;
                next.pass();
                tryRows(t + 1, row << 1 | cap, turns + turn);
            }
        }

        private void judge(Level last, int row, int turns) {
            int worth = worthOf(last);
            if (worth > bestWorth || worth == bestWorth && turns < bestTurns) {
                bestWorth = worth;
                bestTurns = turns;
                bestRow = row;
            }
        }

        private int worthOf(Level last) {
            if (wanted == WANT_MEAL) {
                return last.meal;
            }
            return (wanted & ~last.soundsThatAre(GROUND)) == 0 ? 1 : 0;
        }

        /** The row's first CAP is its highest bit. */
        int bestCap(int k) {
            return bestRow >> hours - 1 - k & 1;
        }
    }

    /** TURNS of the miller and the quarter. */
    private static final class Play {
        static final int MOST_TURNS = 4;

        private final Level board = new Level();
        private final Level outcome = new Level();
        private int hours;

        int comesTo(Level from, int turns, int m) {
            board.becomeLike(from);
            hours = m;
            return bestFor(true, Math.min(turns, MOST_TURNS));
        }

        private int bestFor(boolean miller, int turnsLeft) {
            if (turnsLeft <= 0) {
                outcome.becomeLike(board);
                return outcome.mealBehind(hours);
            }
            int idle = bestFor(!miller, turnsLeft - 1);
            turn(miller);
            int turned = bestFor(!miller, turnsLeft - 1);
            turn(miller);
            return miller ? Math.max(idle, turned) : Math.min(idle, turned);
        }

        private void turn(boolean miller) {
            if (miller) {
                board.turnCap();
            } else {
                board.turnWind();
            }
        }
    }

    /** ASKS of a SOUND, by BODIES that leave their numbers in THE TRACE. */
    private static final class Asks {
        private static final int ASK_SIZE = 0, ASK_MARK = 1, MOST_TRACE = 16, DEEPEST = 16;
        /** The BODY told for each KIND; 0: that of the next KIND it is serves. */
        private static final int[] SIZE_BODIES = {10, 11, 12, 0, 13, 14};
        private static final int[] MARK_BODIES = {20, 21, 24, 22, 23, 0};

        final int[] trace = new int[MOST_TRACE];
        int traced;
        private int number;
        private int kind;
        private int cell;
        private int loud;

        static boolean isAsk(int what) {
            return what == ASK_SIZE || what == ASK_MARK;
        }

        int answer(Level level, int one, int what) {
            traced = 0;
            number = one;
            kind = level.kinds[one];
            cell = level.places[one];
            loud = level.louds[one];
            return askAnew(what, 0);
        }

        private int askAnew(int what, int depth) {
            return begin(bodyFor(what), depth);
        }

        private int bodyFor(int what) {
            int is = kind;
            for (int steps = 0; steps < NEXT_KIND.length && is > SOUND && is < NEXT_KIND.length; steps++) {
                int body = what == ASK_SIZE ? SIZE_BODIES[is] : MARK_BODIES[is];
                if (body != 0) {
                    return body;
                }
                is = NEXT_KIND[is];
            }
            return what == ASK_SIZE ? SIZE_BODIES[SOUND] : MARK_BODIES[SOUND];
        }

        private int begin(int body, int depth) {
            if (depth >= DEEPEST) {
                return 0;
            }
            leave(body);
            int deeper = depth + 1;
            switch (body) {
                case 10: return loud;
                case 11: return begin(10, deeper) + askAnew(ASK_MARK, deeper);
                case 12: return -begin(11, deeper);
                case 13: return begin(10, deeper) - 100;
                case 14: return begin(13, deeper) * 2;
                case 20: return number;
                case 21: return begin(20, deeper) + cell;
                case 22: return begin(21, deeper) - 1000;
                case 23: return begin(20, deeper) - askAnew(ASK_SIZE, deeper);
                case 24: return begin(21, deeper) * 2;
                default: return 0;
            }
        }

        private void leave(int body) {
            if (traced < MOST_TRACE) {
                trace[traced] = body;
                traced++;
            }
        }
    }
}
