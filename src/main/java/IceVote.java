import java.util.Arrays;

/**
 * A lake of 25 cells whose ice grows and melts by the week's weather, and the voters beside it who
 * vote each January whether it is frozen. The promises that it keeps are told in DOC.md; README.md
 * tells how the file is laid out.
 *
 * <p>No call makes rows of its own (but for an image that is kept the first time): all of them are
 * made with the object and used again, since all calls of a run share one room.
 */
public final class IceVote {
    public static final int NONE = -1, BAD = -2, NO = -3, FULL = -4;

    private static final int SIDE = 5, CELLS = 25, KINDS = 6, WEEK = 7, WARDS = 4;
    private static final int MOST_ICE = 99, MOST_WEIGHT = 99, MOST_BORNE = 198, MOST_WORD = 99;
    private static final int MOST_SKY = 9, LAST_DAY = 999, MOST_DAYS = 60, MOST_NIGHTS = 8;
    private static final int MOST_VOTERS = 7, MOST_RECORDS = 6, RECORD = 5, MOST_UNDONE = 8;
    private static final int MOST_BYTES = 150, LAST_BYTE = 127, MOST_SLEDGES = 40, IMAGES = 2;
    private static final int MOST_SEED = 999999, TENTHS = 10;

    private static final int NOT_SO_MANY = -5, BAD_PATH = -10, BAD_STATUS = -1, FAULT = -10;

    private final Lake now = new Lake();
    private final Lake told = new Lake();
    private final Lake[] images = new Lake[IMAGES];
    private final Sheet trial = new Sheet();
    private final Ways ways = new Ways();
    private final Text text = new Text();
    private final int[] refused = new int[3];
    private final int[] looks = new int[KINDS];
    private final long[] chance = new long[MOST_ICE + 1];
    private final long[] chanceAfter = new long[MOST_ICE + 1];
    private long above = 0;
    private long below = 1;

    public IceVote() {
    }

    // ---- a lake

    public int lake(int ice) {
        if (!within(ice, 0, MOST_ICE)) {
            return bad();
        }
        int before = now.voters.size;
        now.restart(ice);
        return before;
    }

    public int cell(int c, int kind) {
        if (!isCell(c) || !within(kind, 0, KINDS - 1)) {
            return bad();
        }
        int before = now.sheet.kindOf(c);
        now.sheet.setKind(c, kind);
        now.past.empty();
        return before;
    }

    public int weather(int day, int frost, int sun) {
        if (!within(day, 0, WEEK - 1) || !isSky(frost) || !isSky(sun)) {
            return bad();
        }
        int before = 10 * now.week.frostOn(day) + now.week.sunOn(day);
        now.week.set(day, frost, sun);
        now.past.empty();
        return before;
    }

    public int ward(int w, int word) {
        if (!within(w, 0, WARDS - 1) || !within(word, 0, MOST_WORD)) {
            return bad();
        }
        int before = now.word[w];
        now.word[w] = word;
        now.past.empty();
        return before;
    }

    public int voter(int kind, int weight, int c) {
        if (!within(kind, 0, KINDS - 1) || !within(weight, 1, MOST_WEIGHT) || !isCell(c)) {
            return bad();
        }
        if (now.voters.size >= MOST_VOTERS) {
            return full();
        }
        now.voters.add(kind, weight, c);
        now.past.empty();
        return now.voters.size - 1;
    }

    public int type(int c) {
        if (!within(c, 0, LAST_BYTE)) {
            return bad();
        }
        if (text.length >= MOST_BYTES) {
            return full();
        }
        text.add(c);
        return text.length;
    }

    public int clear() {
        int before = text.length;
        text.length = 0;
        return before;
    }

    public int read() {
        // Told to a lake aside first, so that a fault leaves the one there is untouched.
        int items = text.tell(told);
        if (items > 0) {
            now.copy(told);
        }
        return items;
    }

    // ---- days

    public int day(int n) {
        if (!within(n, 1, MOST_DAYS)) {
            return bad();
        }
        now.keepPast();
        now.passDays(n);
        return now.sheet.together();
    }

    public int tread(int c, int w) {
        if (!isCell(c) || !within(w, 1, MOST_WEIGHT)) {
            return bad();
        }
        boolean borne = now.sheet.bears(c) >= w;
        now.keepPast();
        now.sheet.setIce(c, borne ? Math.max(0, now.sheet.iceOf(c) - 1) : 0);
        return borne ? 1 : 0;
    }

    public int stone(int c) {
        if (!isCell(c)) {
            return bad();
        }
        now.keepPast();
        now.sheet.setIce(c, now.sheet.iceOf(c) / 2);
        return now.sheet.iceOf(c);
    }

    public int undo() {
        if (now.past.size <= 0) {
            return no();
        }
        now.day = now.past.goBack(now.sheet);
        return now.day;
    }

    public int of(int c, int what) {
        if (!isCell(c) || !within(what, 0, 2)) {
            return bad();
        }
        switch (what) {
            case 0:
                return now.sheet.kindOf(c);
            case 1:
                return now.sheet.iceOf(c);
            default:
                return now.sheet.bears(c);
        }
    }

    public int about(int v, int what) {
        if (!isVoter(v) || !within(what, 0, 3)) {
            return bad();
        }
        switch (what) {
            case 0:
                return now.voters.kindOf(v);
            case 1:
                return now.voters.weightOf(v);
            case 2:
                return now.voters.cellOf(v);
            default:
                return has(yesNow(), v) ? 1 : 0;
        }
    }

    // ---- what it bears

    public int then(int c, int m, int what) {
        if (!isCell(c) || !within(m, 0, MOST_DAYS) || !within(what, 0, 1)) {
            return bad();
        }
        int ice = now.iceBehind(c, m);
        return what == 0 ? ice : CellKind.bears(now.sheet.kindOf(c), ice);
    }

    public int when(int c, int w) {
        if (!isCell(c) || !isBorne(w)) {
            return bad();
        }
        int kind = now.sheet.kindOf(c);
        int ice = now.sheet.iceOf(c);
        for (int m = 0; m <= MOST_DAYS; m++) {
            if (CellKind.bears(kind, ice) >= w) {
                return m;
            }
            ice = now.week.iceAfter(kind, ice, now.day + m);
        }
        return NONE;
    }

    public int where(int w, int m) {
        if (!isBorne(w) || !within(m, 0, MOST_DAYS)) {
            return bad();
        }
        trial.copy(now.sheet);
        for (int d = 0; d < m; d++) {
            trial.passDay(now.week.frostOn(now.day + d), now.week.sunOn(now.day + d));
        }
        return trial.bearing(w);
    }

    public int horses(int w) {
        if (!isBorne(w)) {
            return bad();
        }
        trial.copy(now.sheet);
        for (int m = 0; m <= MOST_DAYS; m++) {
            if (trial.bearsTogether() >= CELLS * w) {
                return m;
            }
            trial.passDay(now.week.frostOn(now.day + m), now.week.sunOn(now.day + m));
        }
        return NONE;
    }

    public int path(int w, int a, int b, int i) {
        if (!isBorne(w) || !isCell(a) || !isCell(b) || i < NONE) {
            bad();
            return BAD_PATH;
        }
        int cells = ways.find(now.sheet.bearing(w), a, b);
        if (cells == 0) {
            return NONE;
        }
        if (i == NONE) {
            return cells;
        }
        return i < cells ? ways.step(i) : NOT_SO_MANY;
    }

    public int safe(int a, int b) {
        if (!isCell(a) || !isCell(b)) {
            return bad();
        }
        // What bears more bears less too, so the most is found bit by bit.
        int most = 0;
        for (int bit = 128; bit > 0; bit /= 2) {
            int more = most + bit;
            if (more <= MOST_BORNE && Ways.joined(now.sheet.bearing(more), a, b)) {
                most = more;
            }
        }
        return most;
    }

    public int cross(int w, int a, int b) {
        if (!within(w, 1, MOST_WEIGHT) || !isCell(a) || !isCell(b) || a == b) {
            return bad();
        }
        trial.copy(now.sheet);
        for (int sledges = 0; sledges < MOST_SLEDGES; sledges++) {
            int cells = ways.find(trial.bearing(w), a, b);
            if (cells == 0) {
                return sledges;
            }
            for (int i = 0; i < cells; i++) {
                int c = ways.step(i);
                trial.setIce(c, Math.max(0, trial.iceOf(c) - 1));
            }
        }
        return MOST_SLEDGES;
    }

    public int apart(int w, int a, int b, int what) {
        if (!isBorne(w) || !isCell(a) || !isCell(b) || a == b || !within(what, 0, 1)) {
            return bad();
        }
        int cut = Ways.cut(now.sheet.bearing(w), a, b);
        if (what == 1 || cut == NONE || cut == 0) {
            return cut;
        }
        return cut >= Ways.ONE_CELL ? 1 : 2;
    }

    // ---- votes

    public int votes(int what) {
        if (!within(what, 0, 2)) {
            return bad();
        }
        switch (what) {
            case 0:
                return yesNow();
            case 1:
                return now.voters.carried(yesNow()) ? 1 : 0;
            default:
                return now.voters.wet(now.sheet, now.frost());
        }
    }

    public int turn() {
        int yes = yesNow();
        boolean carried = now.voters.carried(yes);
        int fewest = NONE;
        for (int set = 1; set < now.voters.sets(); set++) {
            boolean fewer = fewest == NONE || Integer.bitCount(set) < Integer.bitCount(fewest);
            if (fewer && now.voters.carried(yes ^ set) != carried) {
                fewest = set;
            }
        }
        return fewest;
    }

    public int seen(int wet, int what) {
        if (!within(wet, 0, now.voters.sets() - 1) || !within(what, 0, 2)) {
            return bad();
        }
        int heavy = now.voters.heavy(now.sheet);
        int sets = 0;
        int inAll = NONE;
        int inSome = 0;
        for (int set = 0; set < now.voters.sets(); set++) {
            if ((set & heavy) == wet && now.voters.carried(set)) {
                sets++;
                // NONE is all bits, so the first set stays as it is.
                inAll &= set;
                inSome |= set;
            }
        }
        switch (what) {
            case 0:
                return sets;
            case 1:
                return inAll;
            default:
                return inSome;
        }
    }

    public int lies() {
        int lying = 0;
        for (int w = 0; w < WARDS; w++) {
            if (now.word[w] > now.sheet.iceOfWard(w) / 4) {
                lying |= 1 << w;
            }
        }
        return lying;
    }

    public int stones(int w, int a, int b) {
        if (!isBorne(w) || !isCell(a) || !isCell(b) || a == b) {
            return bad();
        }
        boolean onA = now.sheet.bears(a) >= w;
        boolean onB = now.sheet.bears(b) >= w;
        if (onA == onB) {
            return NONE;
        }
        return onA ? b : a;
    }

    public int note(int c, int i, int f, int s, int j) {
        if (!isCell(c) || !within(i, 0, MOST_ICE) || !isSky(f) || !isSky(s) || !within(j, 0, MOST_ICE)) {
            return bad();
        }
        return now.notes.size >= MOST_RECORDS ? full() : now.notes.add(c, i, f, s, j);
    }

    public int voted(int v, int yes, int b, int n, int f) {
        if (!isVoter(v) || !within(yes, 0, 1) || !within(b, 0, MOST_BORNE) || !within(n, 0, MOST_BORNE)
                || !isSky(f)) {
            return bad();
        }
        return now.polls.size >= MOST_RECORDS ? full() : now.polls.add(v, yes, b, n, f);
    }

    public int forget(int what) {
        if (!within(what, 0, 1)) {
            return bad();
        }
        return what == 0 ? now.notes.empty() : now.polls.empty();
    }

    public int is(int c) {
        return isCell(c) ? kindsNoted(c) : bad();
    }

    public int next(int c) {
        if (!isCell(c)) {
            return bad();
        }
        int kinds = kindsNoted(c);
        if (kinds == 0) {
            return NONE;
        }
        int best = NONE;
        int fewest = KINDS + 1;
        for (int sky = 0; sky < 100; sky++) {
            int alike = mostAlike(kinds, now.sheet.iceOf(c), sky / 10, sky % 10);
            if (alike < fewest) {
                fewest = alike;
                best = sky;
            }
        }
        return best;
    }

    public int who(int v) {
        if (!isVoter(v)) {
            return bad();
        }
        int kinds = 0;
        for (int kind = 0; kind < KINDS; kind++) {
            if (fitsPolls(kind, v)) {
                kinds |= 1 << kind;
            }
        }
        return kinds;
    }

    public int two(int a, int b) {
        if (!isVoter(a) || !isVoter(b) || a == b) {
            return bad();
        }
        int heavy = now.voters.heavy(now.sheet);
        int others = yesNow() & ~(1 << a) & ~(1 << b);
        int resting = 0;
        for (int pair = 0; pair < 4; pair++) {
            int set = others | (has(pair, 0) ? 1 << a : 0) | (has(pair, 1) ? 1 << b : 0);
            boolean restsA = now.voters.gain(a, set, heavy) >= now.voters.gain(a, set ^ 1 << a, heavy);
            boolean restsB = now.voters.gain(b, set, heavy) >= now.voters.gain(b, set ^ 1 << b, heavy);
            if (restsA && restsB) {
                resting |= 1 << pair;
            }
        }
        return resting;
    }

    public int thaw(int c, int w, int m, int odds) {
        if (!isCell(c) || !isBorne(w) || !within(m, 0, MOST_NIGHTS) || !within(odds, 0, TENTHS)) {
            return bad();
        }
        int kind = now.sheet.kindOf(c);
        Arrays.fill(chance, 0);
        addAt(chance, now.sheet.iceOf(c), 1);
        long all = 1;
        for (int d = 0; d < m; d++) {
            passNight(kind, now.day + d, odds);
            all *= TENTHS;
        }
        long bearing = 0;
        for (int ice = 0; ice <= MOST_ICE; ice++) {
            bearing += CellKind.bears(kind, ice) >= w ? chance[ice] : 0;
        }
        keepFraction(bearing, all);
        return 1;
    }

    public int winters(int seed, int n) {
        if (!within(seed, 0, MOST_SEED) || !within(n, 0, MOST_DAYS)) {
            return bad();
        }
        trial.copy(now.sheet);
        long x = seed;
        int wet = 0;
        for (int d = 0; d < n; d++) {
            x = (x * 1103515245L + 12345L) % 2147483648L;
            int frost = (int) (x / 65536L % 10L);
            int sun = (int) (x / 1048576L % 10L);
            trial.passDay(frost, sun);
            wet += Integer.bitCount(now.voters.wet(trial, frost));
        }
        return wet;
    }

    // ---- what there is

    public long part(int what) {
        if (!within(what, 0, 1)) {
            return bad();
        }
        return what == 0 ? above : below;
    }

    public int image(int i) {
        if (!within(i, 0, IMAGES - 1)) {
            return bad();
        }
        Lake kept = images[i];
        if (kept == null) {
            kept = new Lake();
            images[i] = kept;
        }
        kept.copy(now);
        return 1;
    }

    public int from(int i) {
        if (!within(i, 0, IMAGES - 1)) {
            return bad();
        }
        Lake kept = images[i];
        if (kept == null) {
            return no();
        }
        now.copy(kept);
        return 1;
    }

    public int status(int what) {
        if (!within(what, 0, 2)) {
            bad();
            return BAD_STATUS;
        }
        return refused[what];
    }

    public int count(int what) {
        return within(what, 0, 6) ? amount(what) : bad();
    }

    public long digest() {
        long h = 1453;
        for (int what = 0; what <= 6; what++) {
            h = 31 * h + amount(what);
        }
        for (int c = 0; c < CELLS; c++) {
            h = 31 * (31 * h + now.sheet.kindOf(c)) + now.sheet.iceOf(c);
        }
        for (int d = 0; d < WEEK; d++) {
            h = 31 * (31 * h + now.week.frostOn(d)) + now.week.sunOn(d);
        }
        for (int w = 0; w < WARDS; w++) {
            h = 31 * h + now.word[w];
        }
        h = now.voters.fold(h);
        h = now.notes.fold(h);
        h = now.polls.fold(h);
        return 31 * (31 * h + above) + below;
    }

    // ---- what a call is told, and what is refused

    private int bad() {
        refused[0]++;
        return BAD;
    }

    private int no() {
        refused[1]++;
        return NO;
    }

    private int full() {
        refused[2]++;
        return FULL;
    }

    private boolean isVoter(int v) {
        return within(v, 0, now.voters.size - 1);
    }

    private static boolean isCell(int c) {
        return within(c, 0, CELLS - 1);
    }

    private static boolean isSky(int x) {
        return within(x, 0, MOST_SKY);
    }

    private static boolean isBorne(int w) {
        return within(w, 1, MOST_BORNE);
    }

    private static boolean within(int x, int least, int most) {
        return x >= least && x <= most;
    }

    private static boolean has(int set, int i) {
        return (set >> i & 1) == 1;
    }

    // ---- what the calls are made of

    private int amount(int what) {
        switch (what) {
            case 0:
                return now.voters.size;
            case 1:
                return now.day;
            case 2:
                return now.sheet.together();
            case 3:
                return now.notes.size;
            case 4:
                return now.polls.size;
            case 5:
                return now.past.size;
            default:
                return text.length;
        }
    }

    private int yesNow() {
        return now.voters.yes(now.sheet, now.frost());
    }

    private int kindsNoted(int c) {
        int kinds = 0;
        for (int kind = 0; kind < KINDS; kind++) {
            if (fitsNotes(kind, c)) {
                kinds |= 1 << kind;
            }
        }
        return kinds;
    }

    private boolean fitsNotes(int kind, int c) {
        Records notes = now.notes;
        for (int i = 0; i < notes.size; i++) {
            int after = CellKind.after(kind, notes.at(i, 1), notes.at(i, 2), notes.at(i, 3));
            if (notes.at(i, 0) == c && after != notes.at(i, 4)) {
                return false;
            }
        }
        return true;
    }

    /** How many of these kinds at the most would have the same ice behind a day of this weather. */
    private int mostAlike(int kinds, int ice, int frost, int sun) {
        for (int kind = 0; kind < KINDS; kind++) {
            looks[kind] = has(kinds, kind) ? CellKind.after(kind, ice, frost, sun) : NONE;
        }
        int most = 0;
        for (int kind = 0; kind < KINDS; kind++) {
            int alike = 0;
            for (int other = 0; other < KINDS; other++) {
                alike += looks[other] == looks[kind] ? 1 : 0;
            }
            if (looks[kind] != NONE) {
                most = Math.max(most, alike);
            }
        }
        return most;
    }

    private boolean fitsPolls(int kind, int v) {
        Records polls = now.polls;
        int weight = now.voters.weightOf(v);
        for (int i = 0; i < polls.size; i++) {
            boolean yes = VoterKind.yes(kind, weight, polls.at(i, 2), polls.at(i, 3), polls.at(i, 4));
            if (polls.at(i, 0) == v && yes != (polls.at(i, 1) == 1)) {
                return false;
            }
        }
        return true;
    }

    /** One night more: of the chances (in tenths, all ones together) that a cell has so much ice. */
    private void passNight(int kind, int day, int odds) {
        int frost = now.week.frostOn(day);
        int sun = now.week.sunOn(day);
        Arrays.fill(chanceAfter, 0);
        for (int ice = 0; ice <= MOST_ICE; ice++) {
            addAt(chanceAfter, CellKind.after(kind, ice, 0, sun), chance[ice] * odds);
            addAt(chanceAfter, CellKind.after(kind, ice, frost, sun), chance[ice] * (TENTHS - odds));
        }
        System.arraycopy(chanceAfter, 0, chance, 0, MOST_ICE + 1);
    }

    private static void addAt(long[] row, int i, long more) {
        if (i >= 0 && i < row.length) {
            row[i] += more;
        }
    }

    private void keepFraction(long up, long down) {
        long a = up;
        long b = down;
        for (int step = 0; step < 100 && a != 0; step++) {
            long left = b % a;
            b = a;
            a = left;
        }
        if (b > 0) {
            above = up / b;
            below = down / b;
        }
    }

    /** What the kinds of cells say, each as the one that it is under says, but for what is its own. */
    private static final class CellKind {
        static final int STREAM = 1, SNOW = 2, BAY = 3, MOUTH = 4, DRIFT = 5;
        private static final int MOUTH_ICE = 10, MOUTH_LESS = 5, SNOW_LESS = 2;

        /** A cell's ice behind a day. */
        static int after(int kind, int ice, int frost, int sun) {
            int grown = Math.min(MOST_ICE, ice + grows(kind, ice, frost));
            return Math.max(0, grown - melts(kind, sun));
        }

        static int grows(int kind, int ice, int frost) {
            switch (kind) {
                case STREAM:
                    return streamGrows(frost);
                case SNOW:
                case DRIFT:
                    return Math.max(0, frost - SNOW_LESS);
                case BAY:
                    return frost >= 1 ? frost + 1 : frost;
                case MOUTH:
                    return ice < MOUTH_ICE ? 0 : streamGrows(frost);
                default:
                    return frost;
            }
        }

        private static int streamGrows(int frost) {
            return frost / 2;
        }

        static int melts(int kind, int sun) {
            switch (kind) {
                case STREAM:
                case MOUTH:
                    return sun + 1;
                case SNOW:
                case DRIFT:
                    return sun / 2;
                default:
                    return sun;
            }
        }

        static int bears(int kind, int ice) {
            int plain = 2 * ice;
            switch (kind) {
                case MOUTH:
                    return Math.max(0, plain - MOUTH_LESS);
                case DRIFT:
                    return (plain + 1) / 2;
                default:
                    return plain;
            }
        }
    }

    /** Which kinds of voters vote yes, each as the one that it is under, but for what is its own. */
    private static final class VoterKind {
        static final int BREWER = 1, FERRY = 2, FATHER = 3, PARTY = 4, EAR = 5;
        private static final int BREWER_LEAST = 40, FATHER_FROST = 6;

        static boolean yes(int kind, int weight, int bears, int leastBeside, int frost) {
            boolean plain = bears >= weight;
            boolean brewer = plain && bears >= BREWER_LEAST;
            boolean father = plain || frost >= FATHER_FROST;
            switch (kind) {
                case BREWER:
                    return brewer;
                case FERRY:
                    return false;
                case FATHER:
                    return father;
                case PARTY:
                    return frost >= 1 || father;
                case EAR:
                    return brewer && leastBeside >= weight;
                default:
                    return plain;
            }
        }
    }

    /** The cells with their kinds and their ice: the lake's own ones, or some to try things on. */
    private static final class Sheet {
        final int[] kind = new int[CELLS];
        final int[] ice = new int[CELLS];

        void copy(Sheet other) {
            System.arraycopy(other.kind, 0, kind, 0, CELLS);
            System.arraycopy(other.ice, 0, ice, 0, CELLS);
        }

        void restart(int thick) {
            Arrays.fill(kind, 0);
            Arrays.fill(ice, thick);
        }

        int kindOf(int c) {
            return isCell(c) ? kind[c] : 0;
        }

        int iceOf(int c) {
            return isCell(c) ? ice[c] : 0;
        }

        int bears(int c) {
            return isCell(c) ? CellKind.bears(kind[c], ice[c]) : 0;
        }

        void setKind(int c, int to) {
            if (isCell(c)) {
                kind[c] = to;
            }
        }

        void setIce(int c, int to) {
            if (isCell(c)) {
                ice[c] = to;
            }
        }

        void passDay(int frost, int sun) {
            for (int c = 0; c < CELLS; c++) {
                ice[c] = CellKind.after(kind[c], ice[c], frost, sun);
            }
        }

        int together() {
            int all = 0;
            for (int c = 0; c < CELLS; c++) {
                all += ice[c];
            }
            return all;
        }

        int bearsTogether() {
            int all = 0;
            for (int c = 0; c < CELLS; c++) {
                all += bears(c);
            }
            return all;
        }

        /** The cells (bits) that bear so much or more. */
        int bearing(int w) {
            int cells = 0;
            for (int c = 0; c < CELLS; c++) {
                if (bears(c) >= w) {
                    cells |= 1 << c;
                }
            }
            return cells;
        }

        int leastBeside(int c) {
            int least = MOST_BORNE;
            if (c % SIDE > 0) {
                least = Math.min(least, bears(c - 1));
            }
            if (c % SIDE < SIDE - 1) {
                least = Math.min(least, bears(c + 1));
            }
            if (c >= SIDE) {
                least = Math.min(least, bears(c - SIDE));
            }
            if (c + SIDE < CELLS) {
                least = Math.min(least, bears(c + SIDE));
            }
            return least;
        }

        /** Two rows of a ward's bay, from its first cell on: the middle row and column are no one's. */
        int iceOfWard(int w) {
            int first = (w / 2) * 3 * SIDE + (w % 2) * 3;
            return iceOf(first) + iceOf(first + 1) + iceOf(first + SIDE) + iceOf(first + SIDE + 1);
        }
    }

    /** The weather of the seven days that comes again each week. */
    private static final class Week {
        final int[] frost = new int[WEEK];
        final int[] sun = new int[WEEK];

        void copy(Week other) {
            System.arraycopy(other.frost, 0, frost, 0, WEEK);
            System.arraycopy(other.sun, 0, sun, 0, WEEK);
        }

        void restart() {
            Arrays.fill(frost, 0);
            Arrays.fill(sun, 0);
        }

        void set(int day, int frostThen, int sunThen) {
            frost[Math.floorMod(day, WEEK)] = frostThen;
            sun[Math.floorMod(day, WEEK)] = sunThen;
        }

        int frostOn(int day) {
            return frost[Math.floorMod(day, WEEK)];
        }

        int sunOn(int day) {
            return sun[Math.floorMod(day, WEEK)];
        }

        int iceAfter(int kind, int ice, int day) {
            return CellKind.after(kind, ice, frostOn(day), sunOn(day));
        }
    }

    /** The voters, and what comes of their votes; sets of them are bits. */
    private static final class Voters {
        final int[] kind = new int[MOST_VOTERS];
        final int[] weight = new int[MOST_VOTERS];
        final int[] cell = new int[MOST_VOTERS];
        int size = 0;

        void copy(Voters other) {
            System.arraycopy(other.kind, 0, kind, 0, MOST_VOTERS);
            System.arraycopy(other.weight, 0, weight, 0, MOST_VOTERS);
            System.arraycopy(other.cell, 0, cell, 0, MOST_VOTERS);
            size = other.size;
        }

        void add(int newKind, int newWeight, int newCell) {
            if (within(size, 0, MOST_VOTERS - 1)) {
                kind[size] = newKind;
                weight[size] = newWeight;
                cell[size] = newCell;
                size++;
            }
        }

        int kindOf(int v) {
            return within(v, 0, MOST_VOTERS - 1) ? kind[v] : 0;
        }

        int weightOf(int v) {
            return within(v, 0, MOST_VOTERS - 1) ? weight[v] : 0;
        }

        int cellOf(int v) {
            return within(v, 0, MOST_VOTERS - 1) ? cell[v] : 0;
        }

        /** How many sets of voters there are, the empty one too. */
        int sets() {
            return 1 << size;
        }

        int yes(Sheet sheet, int frost) {
            int set = 0;
            for (int v = 0; v < size && v < MOST_VOTERS; v++) {
                int least = sheet.leastBeside(cell[v]);
                if (VoterKind.yes(kind[v], weight[v], sheet.bears(cell[v]), least, frost)) {
                    set |= 1 << v;
                }
            }
            return set;
        }

        boolean carried(int yes) {
            int twice = 2 * Integer.bitCount(yes);
            return twice > size || twice == size && size > 0 && has(yes, heaviest());
        }

        private int heaviest() {
            int first = 0;
            for (int v = 1; v < size; v++) {
                if (weightOf(v) > weightOf(first)) {
                    first = v;
                }
            }
            return first;
        }

        /** Those whose cell bears less than their weight. */
        int heavy(Sheet sheet) {
            int set = 0;
            for (int v = 0; v < size && v < MOST_VOTERS; v++) {
                if (sheet.bears(cell[v]) < weight[v]) {
                    set |= 1 << v;
                }
            }
            return set;
        }

        int wet(Sheet sheet, int frost) {
            int yes = yes(sheet, frost);
            return carried(yes) ? yes & heavy(sheet) : 0;
        }

        /** What one has of it when these vote yes. */
        int gain(int v, int yes, int heavy) {
            if (!carried(yes)) {
                return 0;
            }
            if (!has(heavy, v)) {
                return 2;
            }
            return has(yes, v) ? -3 : -1;
        }

        long fold(long h) {
            long folded = h;
            for (int v = 0; v < size && v < MOST_VOTERS; v++) {
                folded = 31 * (31 * (31 * folded + kind[v]) + weight[v]) + cell[v];
            }
            return folded;
        }
    }

    /** Rows of five numbers each, as they come: the notes of cells, or how voters voted. */
    private static final class Records {
        final int[] row = new int[MOST_RECORDS * RECORD];
        int size = 0;

        void copy(Records other) {
            System.arraycopy(other.row, 0, row, 0, row.length);
            size = other.size;
        }

        int add(int first, int second, int third, int fourth, int fifth) {
            if (within(size, 0, MOST_RECORDS - 1)) {
                int start = size * RECORD;
                row[start] = first;
                row[start + 1] = second;
                row[start + 2] = third;
                row[start + 3] = fourth;
                row[start + 4] = fifth;
                size++;
            }
            return size;
        }

        int at(int i, int column) {
            int place = i * RECORD + column;
            return place >= 0 && place < row.length ? row[place] : 0;
        }

        int empty() {
            int before = size;
            size = 0;
            return before;
        }

        long fold(long h) {
            long folded = h;
            for (int place = 0; place < size * RECORD && place < row.length; place++) {
                folded = 31 * folded + row[place];
            }
            return folded;
        }
    }

    /** The ice and the day as they were ahead of what may be undone, the oldest first. */
    private static final class Past {
        final int[] ice = new int[MOST_UNDONE * CELLS];
        final int[] day = new int[MOST_UNDONE];
        int size = 0;

        void copy(Past other) {
            System.arraycopy(other.ice, 0, ice, 0, ice.length);
            System.arraycopy(other.day, 0, day, 0, day.length);
            size = other.size;
        }

        void empty() {
            size = 0;
        }

        void keep(Sheet sheet, int today) {
            if (size >= MOST_UNDONE) {
                dropOldest();
            }
            if (within(size, 0, MOST_UNDONE - 1)) {
                System.arraycopy(sheet.ice, 0, ice, size * CELLS, CELLS);
                day[size] = today;
                size++;
            }
        }

        private void dropOldest() {
            System.arraycopy(ice, CELLS, ice, 0, (MOST_UNDONE - 1) * CELLS);
            System.arraycopy(day, 1, day, 0, MOST_UNDONE - 1);
            size = MOST_UNDONE - 1;
        }

        /** The sheet has its ice of then; the day of then. */
        int goBack(Sheet sheet) {
            if (!within(size, 1, MOST_UNDONE)) {
                return 0;
            }
            size--;
            System.arraycopy(ice, size * CELLS, sheet.ice, 0, CELLS);
            return day[size];
        }
    }

    /** All that an image keeps. */
    private static final class Lake {
        final Sheet sheet = new Sheet();
        final Week week = new Week();
        final Voters voters = new Voters();
        final Records notes = new Records();
        final Records polls = new Records();
        final Past past = new Past();
        final int[] word = new int[WARDS];
        int day = 0;

        void copy(Lake other) {
            sheet.copy(other.sheet);
            week.copy(other.week);
            voters.copy(other.voters);
            notes.copy(other.notes);
            polls.copy(other.polls);
            past.copy(other.past);
            System.arraycopy(other.word, 0, word, 0, WARDS);
            day = other.day;
        }

        void restart(int ice) {
            sheet.restart(ice);
            week.restart();
            voters.size = 0;
            notes.empty();
            polls.empty();
            past.empty();
            Arrays.fill(word, 0);
            day = 0;
        }

        int frost() {
            return week.frostOn(day);
        }

        void keepPast() {
            past.keep(sheet, day);
        }

        void passDays(int n) {
            for (int d = 0; d < n && day < LAST_DAY; d++) {
                sheet.passDay(week.frostOn(day), week.sunOn(day));
                day++;
            }
        }

        int iceBehind(int c, int m) {
            int kind = sheet.kindOf(c);
            int ice = sheet.iceOf(c);
            for (int d = 0; d < m; d++) {
                ice = week.iceAfter(kind, ice, day + d);
            }
            return ice;
        }
    }

    /** Ways over cells that are open; sets of cells are bits. */
    private static final class Ways {
        static final int ONE_CELL = 32 * 31;
        private static final int ALL = (1 << CELLS) - 1;
        private static final int FIRST_COLUMN = 1 | 1 << 5 | 1 << 10 | 1 << 15 | 1 << 20;
        private static final int LAST_COLUMN = FIRST_COLUMN << SIDE - 1;

        /** The open cells that can be at the end by so many steps, a set for each number of steps. */
        private final int[] ring = new int[CELLS];
        private final int[] steps = new int[CELLS];

        /** The cells beside any of these. */
        static int beside(int cells) {
            int acrossRows = cells << SIDE | cells >>> SIDE;
            int inRows = (cells & ~LAST_COLUMN) << 1 | (cells & ~FIRST_COLUMN) >>> 1;
            return ALL & (acrossRows | inRows);
        }

        static boolean joined(int open, int a, int b) {
            int goal = open & 1 << b;
            int reached = open & 1 << a;
            int before = 0;
            for (int step = 0; step < CELLS && (reached & goal) == 0 && reached != before; step++) {
                before = reached;
                reached |= beside(reached) & open;
            }
            return (reached & goal) != 0;
        }

        /** How many cells the shortest way has, of like ones the first; 0: none. */
        int find(int open, int a, int b) {
            int far = measure(open, a, b);
            if (far < 0) {
                return 0;
            }
            int here = a;
            for (int i = 0; i <= far && i < CELLS; i++) {
                steps[i] = here;
                if (i < far) {
                    here = first(beside(1 << here) & ring[far - i - 1]);
                }
            }
            return far + 1;
        }

        /** How many steps it is from a to b, none: NONE. The rings are drawn about b. */
        private int measure(int open, int a, int b) {
            ring[0] = open & 1 << b;
            for (int far = 0; far < CELLS; far++) {
                if (has(ring[far], a)) {
                    return far;
                }
                if (far + 1 < CELLS) {
                    ring[far + 1] = beside(ring[far]) & open;
                }
            }
            return NONE;
        }

        private static int first(int cells) {
            for (int c = 0; c < CELLS; c++) {
                if (has(cells, c)) {
                    return c;
                }
            }
            return 0;
        }

        /** The i-th cell of the way found last. */
        int step(int i) {
            return isCell(i) ? steps[i] : 0;
        }

        /** The fewest cells that part a from b, told as one number; 0: they are parted. */
        static int cut(int open, int a, int b) {
            if (!joined(open, a, b)) {
                return 0;
            }
            int inner = open & ~(1 << a) & ~(1 << b);
            for (int x = 0; x < CELLS; x++) {
                if (has(inner, x) && !joined(open & ~(1 << x), a, b)) {
                    return ONE_CELL + x;
                }
            }
            for (int x = 0; x < CELLS; x++) {
                for (int y = x + 1; y < CELLS; y++) {
                    boolean both = has(inner, x) && has(inner, y);
                    if (both && !joined(open & ~(1 << x) & ~(1 << y), a, b)) {
                        return 32 * x + y;
                    }
                }
            }
            return NONE;
        }
    }

    /** The text, and the lake that it tells. */
    private static final class Text {
        private static final int BLANK = 32;
        /** Tokens: a number is told as itself, any other one by a number below 0. */
        private static final int END = -1, STOP = -2, WRONG = -3;
        private static final int LAKE_WORD = -4, CELL_WORD = -5, WEEK_WORD = -6, VOTER_WORD = -7;

        final int[] bytes = new int[MOST_BYTES];
        int length = 0;
        private final int[] tokens = new int[MOST_BYTES + 1];
        private final int[] starts = new int[MOST_BYTES + 1];
        private int here = 0;
        private int token = END;

        void add(int c) {
            if (within(length, 0, MOST_BYTES - 1)) {
                bytes[length] = c;
                length++;
            }
        }

        /** How many items it has, or where its fault is; behind a fault the lake is of no use. */
        int tell(Lake lake) {
            findTokens();
            here = 0;
            token = tokens[0];
            if (token != LAKE_WORD || !numberComes(0, MOST_ICE)) {
                return fault();
            }
            lake.restart(token);
            if (!stopComes()) {
                return fault();
            }
            for (int items = 1; items <= MOST_BYTES; items++) {
                advance();
                if (token == END) {
                    return items;
                }
                if (!itemComes(lake)) {
                    return fault();
                }
            }
            return fault();
        }

        private int fault() {
            return FAULT - (within(here, 0, MOST_BYTES) ? starts[here] : length);
        }

        private boolean itemComes(Lake lake) {
            switch (token) {
                case CELL_WORD:
                    return cellsCome(lake.sheet);
                case WEEK_WORD:
                    return pairsCome(lake.week);
                case VOTER_WORD:
                    return lake.voters.size < MOST_VOTERS && voterComes(lake.voters);
                default:
                    return false;
            }
        }

        private boolean cellsCome(Sheet sheet) {
            if (!numberComes(0, KINDS - 1)) {
                return false;
            }
            int kind = token;
            for (int cells = 0; cells < MOST_BYTES; cells++) {
                advance();
                if (token == STOP) {
                    return cells > 0;
                }
                if (!within(token, 0, CELLS - 1)) {
                    return false;
                }
                sheet.setKind(token, kind);
            }
            return false;
        }

        private boolean pairsCome(Week week) {
            for (int day = 0; day < WEEK; day++) {
                advance();
                if (token == STOP) {
                    return day > 0;
                }
                int frost = token;
                if (!within(frost, 0, MOST_SKY) || !numberComes(0, MOST_SKY)) {
                    return false;
                }
                week.set(day, frost, token);
            }
            return stopComes();
        }

        private boolean voterComes(Voters voters) {
            if (!numberComes(0, KINDS - 1)) {
                return false;
            }
            int kind = token;
            if (!numberComes(1, MOST_WEIGHT)) {
                return false;
            }
            int weight = token;
            if (!numberComes(0, CELLS - 1)) {
                return false;
            }
            voters.add(kind, weight, token);
            return stopComes();
        }

        private boolean numberComes(int least, int most) {
            advance();
            return within(token, least, most);
        }

        private boolean stopComes() {
            advance();
            return token == STOP;
        }

        private void advance() {
            if (token != END) {
                here++;
                token = within(here, 0, MOST_BYTES) ? tokens[here] : END;
            }
        }

        /** All tokens with their places, behind them the end, whose place is the text's length. */
        private void findTokens() {
            int place = 0;
            for (int t = 0; t <= MOST_BYTES; t++) {
                place = endOfRun(place, BLANK, BLANK);
                int behind = endOfToken(place);
                starts[t] = place;
                tokens[t] = tokenIn(place, behind);
                if (tokens[t] == END) {
                    return;
                }
                place = behind;
            }
        }

        private int endOfToken(int place) {
            int c = byteAt(place);
            if (within(c, 'a', 'z')) {
                return endOfRun(place, 'a', 'z');
            }
            if (within(c, '0', '9')) {
                return endOfRun(place, '0', '9');
            }
            return Math.min(place + 1, length);
        }

        /** Where the bytes from this place on are no longer of these. */
        private int endOfRun(int place, int least, int most) {
            int end = place;
            while (end < length && within(byteAt(end), least, most)) {
                end++;
            }
            return end;
        }

        private int byteAt(int i) {
            return i >= 0 && i < length && i < MOST_BYTES ? bytes[i] : NONE;
        }

        private int tokenIn(int place, int behind) {
            int c = byteAt(place);
            if (place >= length) {
                return END;
            }
            if (within(c, 'a', 'z')) {
                return wordIn(place, behind);
            }
            if (within(c, '0', '9')) {
                return numberIn(place, behind);
            }
            return c == ';' ? STOP : WRONG;
        }

        private int numberIn(int place, int behind) {
            int last = byteAt(behind - 1) - '0';
            switch (behind - place) {
                case 1:
                    return last;
                case 2:
                    return 10 * (byteAt(place) - '0') + last;
                default:
                    return WRONG;
            }
        }

        private int wordIn(int place, int behind) {
            if (isWord("lake", place, behind)) {
                return LAKE_WORD;
            }
            if (isWord("cell", place, behind)) {
                return CELL_WORD;
            }
            if (isWord("week", place, behind)) {
                return WEEK_WORD;
            }
            return isWord("voter", place, behind) ? VOTER_WORD : WRONG;
        }

        private boolean isWord(String word, int place, int behind) {
            if (behind - place != word.length()) {
                return false;
            }
            for (int i = 0; i < word.length(); i++) {
                if (byteAt(place + i) != word.charAt(i)) {
                    return false;
                }
            }
            return true;
        }
    }
}
