/**
 * A ring of villages, each with a well: by day each draws from its own, by night from the next one's.
 * What every call answers is promised in DOC.md; refusals and findings are answers, nothing is thrown.
 */
public final class NightWells {
    public static final int NONE = -1000000, BAD = -1000001, STATE = -1000002, FULL = -1000003;

    private static final int FINDINGS = -1000010;
    private static final int FOUND_NULL = 1, FOUND_PLACE = 2, FOUND_KIND = 3, FOUND_SIZE = 4, FOUND_STORE = 5;
    private static final int FAULTS = -1000100;
    private static final int MOST_ROWS = 8, MOST_ITEMS = 40;
    private static final int BYTES = 0, SHORTS = 1, INTS = 2;
    private static final int MOST_VILLAGES = 7, MOST_BYTES = 400, MOST_ACTS = 24, MOST_IMAGES = 2, MOST_DAYS = 9999;
    private static final int MOST_RAIN = 99, MOST_SEED = 999999, MOST_NIGHT = 99, MOST_FLOW = 99;
    private static final int FAR = 60, NEAR = 20;
    private static final int VILLAGE = 0, CALM = 1, LAZY = 2, PROUD = 3, STRONG = 4, AWAKE = 5;
    private static final int MOST_TRACED = 16, MOST_OPEN_BODIES = 8;

    private final Row[] rows;
    private final Tape tape;
    private final Plain now;
    private final Plain draft;
    private final Plain tried;
    private final Acts acts;
    private final Plain[] images;
    private final Trace left;
    private int latestFault;
    private int latestFinding;

    public NightWells() {
        rows = new Row[MOST_ROWS];
        for (int r = 0; r < MOST_ROWS; r++) {
            rows[r] = new Row();
        }
        images = new Plain[MOST_IMAGES];
        for (int k = 0; k < MOST_IMAGES; k++) {
            images[k] = new Plain();
        }
        tape = new Tape();
        now = new Plain();
        draft = new Plain();
        tried = new Plain();
        acts = new Acts();
        left = new Trace();
        latestFault = 0;
        latestFinding = 0;
    }

    // ---- rows

    public int row(int row, int lane, int n) {
        if (!isRow(row) || lane < BYTES || lane > INTS || n > MOST_ITEMS) {
            return BAD;
        }
        if (n < 0) {
            return found(FOUND_SIZE);
        }
        latestFinding = 0;
        rows[row].make(lane, n);
        return n;
    }

    public int set(int row, int i, int v) {
        if (!isRow(row)) {
            return BAD;
        }
        if (!rows[row].there) {
            return found(FOUND_NULL);
        }
        if (!rows[row].spans(i, 1)) {
            return found(FOUND_PLACE);
        }
        latestFinding = 0;
        return rows[row].put(i, v);
    }

    public int copy(int a, int i, int b, int j, int n) {
        if (!isRow(a) || !isRow(b)) {
            return BAD;
        }
        Row from = rows[a];
        Row to = rows[b];
        if (!from.there || !to.there) {
            return found(FOUND_NULL);
        }
        if (from.lane != to.lane) {
            return found(FOUND_STORE);
        }
        if (!from.spans(i, n) || !to.spans(j, n)) {
            return found(FOUND_PLACE);
        }
        latestFinding = 0;
        System.arraycopy(from.items, i, to.items, j, n);
        return n;
    }

    public int drop(int row) {
        if (!isRow(row)) {
            return BAD;
        }
        if (!rows[row].there) {
            return found(FOUND_NULL);
        }
        latestFinding = 0;
        rows[row].there = false;
        return rows[row].length;
    }

    // ---- plains, days

    public int feed(long w, int n) {
        if (n < 1 || n > 8) {
            return BAD;
        }
        if (n > MOST_BYTES - tape.length) {
            return FULL;
        }
        tape.append(w, n);
        return tape.length;
    }

    public int plain() {
        boolean fits = tape.read(draft);
        tape.length = 0;
        if (!fits) {
            latestFault = tape.fault;
            return FAULTS - tape.place;
        }
        now.take(draft);
        acts.forgetAll();
        return now.villages;
    }

    public int fault() {
        return latestFault;
    }

    public int day(int rain) {
        if (!now.told) {
            return STATE;
        }
        if (rain < 0 || rain > MOST_RAIN) {
            return BAD;
        }
        if (now.days >= MOST_DAYS) {
            return FULL;
        }
        acts.keep(now);
        return now.passDay(rain);
    }

    public int weather(int seed) {
        if (!now.told) {
            return STATE;
        }
        if (seed < 1 || seed > MOST_SEED) {
            return BAD;
        }
        if (now.days >= MOST_DAYS) {
            return FULL;
        }
        int rain = (int) (seed * 16807L % 2147483647L % 20L);
        acts.keep(now);
        now.passDay(rain);
        return rain;
    }

    public int guard(int village, int is) {
        if (!now.has(village) || is < 0 || is > 1) {
            return BAD;
        }
        int was = now.isGuarding(village) ? 1 : 0;
        acts.keep(now);
        now.guarding = now.guarding & ~(1 << village) | is << village;
        return was;
    }

    public int undo() {
        if (acts.kept == 0) {
            return STATE;
        }
        acts.bringBack(now);
        return acts.kept;
    }

    public int village(int village, int what) {
        if (!now.has(village)) {
            return BAD;
        }
        switch (what) {
            case 0:
                return now.fills[village];
            case 1:
                return now.flows[village];
            case 2:
                return now.needs[village];
            case 3:
                return now.isGuarding(village) ? 1 : 0;
            case 4:
                return now.lacks[village];
            case 5:
                return now.wants(village);
            default:
                return BAD;
        }
    }

    // ---- foretold

    public int ahead(int village, int n, int what) {
        if (!now.has(village) || n < 0 || n > FAR || what < 0 || what > 1) {
            return BAD;
        }
        startForetelling();
        tried.passDays(n);
        return what == 0 ? tried.fills[village] : tried.lacks[village];
    }

    public int first(int n) {
        if (!now.told) {
            return STATE;
        }
        if (n < 1 || n > FAR) {
            return BAD;
        }
        startForetelling();
        return tried.firstLack(n);
    }

    public int rest(int what) {
        if (!now.told) {
            return STATE;
        }
        if (what < 0 || what > 1) {
            return BAD;
        }
        startForetelling();
        return what == 0 ? daysToRest() : daysToReturn();
    }

    public int most(int n) {
        if (!now.told) {
            return STATE;
        }
        if (n < 1 || n > NEAR) {
            return BAD;
        }
        // More by night may also help someone, so no night can be left out.
        for (int night = MOST_NIGHT; night >= 0; night--) {
            startForetelling();
            tried.night = night;
            if (tried.firstLack(n) == NONE) {
                return night;
            }
        }
        return NONE;
    }

    public int guards(int n) {
        if (!now.told) {
            return STATE;
        }
        if (n < 1 || n > NEAR) {
            return BAD;
        }
        for (int many = 0; many <= now.villages; many++) {
            int least = leastGuards(many, n);
            if (least != NONE) {
                return least;
            }
        }
        return NONE;
    }

    public int drew(int row, int what) {
        if (!now.told) {
            return STATE;
        }
        if (!isRow(row) || what < 0 || what > 1) {
            return BAD;
        }
        if (!rows[row].there) {
            return found(FOUND_NULL);
        }
        if (!rows[row].spans(0, now.villages)) {
            return found(FOUND_PLACE);
        }
        latestFinding = 0;
        return what == 0 ? drawingSets(rows[row]) : leastDrawingSet(rows[row]);
    }

    public int where(int f, int n, int what) {
        if (now.villages == 0) {
            return STATE;
        }
        if (f < 1 || f > MOST_FLOW || n < 1 || n > NEAR || what < 0 || what > 1) {
            return BAD;
        }
        int best = 0;
        int least = lackedWithMoreFlow(0, f, n);
        for (int v = 1; v < now.villages; v++) {
            int lacked = lackedWithMoreFlow(v, f, n);
            if (lacked < least) {
                best = v;
                least = lacked;
            }
        }
        return what == 0 ? best : least;
    }

    public int wed(int a, int b, int n) {
        if (!now.has(a) || !now.has(b) || a == b || n < 1 || n > NEAR) {
            return BAD;
        }
        startForetelling();
        int both = now.fills[a] + now.fills[b];
        int half = both / 2;
        tried.fills[a] = Math.min(now.room, both - half);
        tried.fills[b] = Math.min(now.room, half);
        int thirsty = 0;
        for (int d = 0; d < n; d++) {
            if (tried.passDay(0) != 0) {
                thirsty++;
            }
        }
        return thirsty;
    }

    public int image(int k) {
        if (k < 0 || k >= MOST_IMAGES) {
            return BAD;
        }
        if (!now.told) {
            return STATE;
        }
        images[k].take(now);
        return 1;
    }

    public int restore(int k) {
        if (k < 0 || k >= MOST_IMAGES) {
            return BAD;
        }
        if (!images[k].told) {
            return STATE;
        }
        now.take(images[k]);
        acts.forgetAll();
        return 1;
    }

    // ---- asked

    public int kind(int village) {
        return now.has(village) ? now.kinds[village] : BAD;
    }

    public int as(int village, int kind) {
        if (!now.has(village) || kind < VILLAGE || kind > AWAKE) {
            return BAD;
        }
        if (!isOne(now.kinds[village], kind)) {
            return found(FOUND_KIND);
        }
        latestFinding = 0;
        return village;
    }

    public int ask(int village, int what) {
        if (!now.has(village) || what < 0 || what > 1) {
            return BAD;
        }
        left.length = 0;
        int kind = now.kinds[village];
        return answer(what == 0 ? sizeBody(kind) : markBody(kind), now, village, left, 1);
    }

    public int trace(int i) {
        return i >= 0 && i < left.length ? left.numbers[i] : NONE;
    }

    public int count(int what) {
        switch (what) {
            case 0:
                return rowsThere();
            case 1:
                return now.villages;
            case 2:
                return now.days;
            case 3:
                return now.sum(now.fills);
            case 4:
                return acts.kept;
            case 5:
                return now.sum(now.lacks);
            case 6:
                return tape.length;
            default:
                return BAD;
        }
    }

    public int status() {
        return latestFinding;
    }

    // ---- inside

    private static boolean isRow(int row) {
        return row >= 0 && row < MOST_ROWS;
    }

    private int found(int finding) {
        latestFinding = finding;
        return FINDINGS - finding;
    }

    private int rowsThere() {
        int there = 0;
        for (int r = 0; r < MOST_ROWS; r++) {
            if (rows[r].there) {
                there++;
            }
        }
        return there;
    }

    private void startForetelling() {
        tried.take(now);
        tried.forgetLacks();
    }

    private int daysToRest() {
        for (int d = 0; d <= FAR; d++) {
            draft.take(tried);
            tried.passDay(0);
            if (tried.hasFillsOf(draft)) {
                return d;
            }
        }
        return NONE;
    }

    private int daysToReturn() {
        for (int d = 1; d <= FAR; d++) {
            tried.passDay(0);
            if (tried.hasFillsOf(now)) {
                return d;
            }
        }
        return NONE;
    }

    private int leastGuards(int many, int n) {
        int sets = 1 << now.villages;
        for (int set = 0; set < sets; set++) {
            if (Integer.bitCount(set) == many) {
                startForetelling();
                tried.guarding = set;
                if (tried.firstLack(n) == NONE) {
                    return set;
                }
            }
        }
        return NONE;
    }

    private int drawingSets(Row told) {
        int sets = 1 << now.villages;
        int many = 0;
        for (int set = 0; set < sets; set++) {
            if (wouldLeave(set, told)) {
                many++;
            }
        }
        return many;
    }

    private int leastDrawingSet(Row told) {
        int sets = 1 << now.villages;
        for (int set = 0; set < sets; set++) {
            if (wouldLeave(set, told)) {
                return set;
            }
        }
        return NONE;
    }

    private boolean wouldLeave(int drawing, Row told) {
        startForetelling();
        tried.passNight(drawing);
        for (int v = 0; v < tried.villages; v++) {
            if (tried.fills[v] != told.items[v]) {
                return false;
            }
        }
        return true;
    }

    private int lackedWithMoreFlow(int village, int more, int n) {
        startForetelling();
        tried.flows[village] += more;
        tried.passDays(n);
        return tried.sum(tried.lacks);
    }

    private static boolean isOne(int kind, int asked) {
        return kind == asked || nextKind(kind) == asked || asked == VILLAGE;
    }

    private static int nextKind(int kind) {
        switch (kind) {
            case LAZY:
            case PROUD:
                return CALM;
            case AWAKE:
                return STRONG;
            default:
                return VILLAGE;
        }
    }

    private static int sizeBody(int kind) {
        switch (kind) {
            case CALM:
            case PROUD:
                return 11;
            case LAZY:
                return 12;
            case STRONG:
                return 13;
            case AWAKE:
                return 14;
            default:
                return 10;
        }
    }

    private static int markBody(int kind) {
        switch (kind) {
            case CALM:
                return 21;
            case PROUD:
                return 22;
            case STRONG:
            case AWAKE:
                return 23;
            case LAZY:
                return 24;
            default:
                return 20;
        }
    }

    /** What a body gives; open tells how many bodies are at work, this one among them (six at most, of any kind). */
    private static int answer(int body, Plain plain, int village, Trace left, int open) {
        if (open > MOST_OPEN_BODIES || !plain.has(village)) {
            return 0;
        }
        left.add(body);
        switch (body) {
            case 10:
                return plain.fills[village];
            case 11:
                return answer(10, plain, village, left, open + 1)
                        + answer(markBody(plain.kinds[village]), plain, village, left, open + 1);
            case 12:
                return -answer(11, plain, village, left, open + 1);
            case 13:
                return answer(10, plain, village, left, open + 1) - 100;
            case 14:
                return 2 * answer(13, plain, village, left, open + 1);
            case 20:
                return village;
            case 21:
                return answer(20, plain, village, left, open + 1) + plain.flows[village];
            case 22:
                return answer(21, plain, village, left, open + 1) - 1000;
            case 23:
                return answer(20, plain, village, left, open + 1)
                        - answer(sizeBody(plain.kinds[village]), plain, village, left, open + 1);
            case 24:
                return 2 * answer(21, plain, village, left, open + 1);
            default:
                return 0;
        }
    }

    private static final class Row {
        final int[] items = new int[MOST_ITEMS];
        boolean there;
        int lane;
        int length;

        void make(int newLane, int n) {
            there = true;
            lane = newLane;
            length = n;
            for (int i = 0; i < MOST_ITEMS; i++) {
                items[i] = 0;
            }
        }

        boolean spans(int from, int n) {
            return from >= 0 && n >= 0 && n <= length - from;
        }

        int put(int i, int v) {
            if (!spans(i, 1)) {
                return 0;
            }
            items[i] = inLane(v);
            return items[i];
        }

        private int inLane(int v) {
            switch (lane) {
                case BYTES:
                    return (byte) v;
                case SHORTS:
                    return (short) v;
                default:
                    return v;
            }
        }
    }

    /** What a text told of law and villages, and how it all stands by now; also what a plain is tried out on. */
    private static final class Plain {
        final int[] kinds = new int[MOST_VILLAGES];
        final int[] fills = new int[MOST_VILLAGES];
        final int[] flows = new int[MOST_VILLAGES];
        final int[] needs = new int[MOST_VILLAGES];
        final int[] lacks = new int[MOST_VILLAGES];
        boolean told;
        int night;
        int room;
        int villages;
        int days;
        int guarding;

        void begin(int newNight, int newRoom) {
            told = true;
            night = newNight;
            room = newRoom;
            villages = 0;
            days = 0;
            guarding = 0;
            forgetLacks();
        }

        void take(Plain other) {
            told = other.told;
            night = other.night;
            room = other.room;
            villages = other.villages;
            days = other.days;
            guarding = other.guarding;
            for (int v = 0; v < MOST_VILLAGES; v++) {
                kinds[v] = other.kinds[v];
                fills[v] = other.fills[v];
                flows[v] = other.flows[v];
                needs[v] = other.needs[v];
                lacks[v] = other.lacks[v];
            }
        }

        void forgetLacks() {
            for (int v = 0; v < MOST_VILLAGES; v++) {
                lacks[v] = 0;
            }
        }

        boolean has(int village) {
            return village >= 0 && village < villages;
        }

        boolean hasFillsOf(Plain other) {
            for (int v = 0; v < villages; v++) {
                if (fills[v] != other.fills[v]) {
                    return false;
                }
            }
            return true;
        }

        int sum(int[] numbers) {
            int all = 0;
            for (int v = 0; v < villages; v++) {
                all += numbers[v];
            }
            return all;
        }

        int wants(int village) {
            switch (kinds[village]) {
                case LAZY:
                    return night / 2;
                case STRONG:
                    return night * 2;
                case PROUD:
                    return 0;
                default:
                    return night;
            }
        }

        /** A day with its night: the set of those who lacked. */
        int passDay(int rain) {
            int lacking = 0;
            for (int v = 0; v < villages; v++) {
                int there = Math.min(room, fills[v] + flows[v] + rain);
                int drawn = Math.min(needs[v], there);
                fills[v] = there - drawn;
                if (drawn < needs[v]) {
                    lacks[v] += needs[v] - drawn;
                    lacking |= 1 << v;
                }
            }
            passNight((1 << villages) - 1);
            days++;
            return lacking;
        }

        /** Those of the set draw, so far as they may. */
        void passNight(int drawing) {
            for (int v = 0; v < villages; v++) {
                int next = v + 1 < villages ? v + 1 : 0;
                if ((drawing >> v & 1) == 1 && !isGuarding(v) && !isWatched(next)) {
                    int drawn = Math.min(wants(v), fills[next]);
                    // Taken out before it comes in: a village that is alone is its own next one.
                    fills[next] -= drawn;
                    fills[v] = Math.min(room, fills[v] + drawn);
                }
            }
        }

        boolean isGuarding(int village) {
            return (guarding >> village & 1) == 1;
        }

        private boolean isWatched(int village) {
            return isGuarding(village) || kinds[village] == AWAKE;
        }

        void passDays(int n) {
            for (int d = 0; d < n; d++) {
                passDay(0);
            }
        }

        int firstLack(int n) {
            for (int d = 0; d < n; d++) {
                if (passDay(0) != 0) {
                    return d;
                }
            }
            return NONE;
        }
    }

    /** The latest acts: how the plain stood ahead of each. */
    private static final class Acts {
        private final Plain[] stood;
        private int next;
        int kept;

        Acts() {
            stood = new Plain[MOST_ACTS];
            for (int k = 0; k < MOST_ACTS; k++) {
                stood[k] = new Plain();
            }
            next = 0;
            kept = 0;
        }

        void forgetAll() {
            kept = 0;
        }

        void keep(Plain plain) {
            stood[next].take(plain);
            next = next + 1 < MOST_ACTS ? next + 1 : 0;
            kept = Math.min(MOST_ACTS, kept + 1);
        }

        void bringBack(Plain plain) {
            if (kept > 0) {
                next = next > 0 ? next - 1 : MOST_ACTS - 1;
                kept--;
                plain.take(stood[next]);
            }
        }
    }

    /** The numbers of the bodies that began. */
    private static final class Trace {
        final int[] numbers = new int[MOST_TRACED];
        int length;

        void add(int number) {
            if (length < MOST_TRACED) {
                numbers[length] = number;
                length++;
            }
        }
    }

    /** The bytes that were fed, and how they are read, token by token. */
    private static final class Tape {
        private static final int NOTHING = 0, NAME = 1, NUMBER = 2, SIGN = 3, END = 4;
        private static final int MISPLACED = 1, NOT_AS_TOLD = 2, ONE_MORE = 3;
        private static final int MOST_FIGURES = 3;

        private final byte[] bytes = new byte[MOST_BYTES];
        int length;
        int fault;
        int place;
        private int at;
        private int start;
        private int token;
        private int number;

        void append(long w, int n) {
            for (int k = n - 1; k >= 0 && length < MOST_BYTES; k--) {
                bytes[length] = (byte) (w >> 8 * k);
                length++;
            }
        }

        /** Whether there was no fault; if not, fault and place tell it, and what came into the plain is void. */
        boolean read(Plain plain) {
            at = 0;
            fault = 0;
            readWord("law");
            int night = readNumber(0, MOST_NIGHT);
            int room = readNumber(1, 999);
            readSign();
            plain.begin(night, room);
            for (int v = 0; v <= MOST_VILLAGES && fault == 0; v++) {
                advance();
                if (token == END) {
                    return true;
                }
                if (!spells("village")) {
                    blame(MISPLACED);
                } else if (v == MOST_VILLAGES) {
                    blame(ONE_MORE);
                } else {
                    readVillage(plain, v);
                }
            }
            return false;
        }

        private void readVillage(Plain plain, int v) {
            plain.kinds[v] = readSort();
            plain.fills[v] = readNumber(0, plain.room);
            plain.flows[v] = readNumber(0, MOST_FLOW);
            plain.needs[v] = readNumber(0, 99);
            readSign();
            plain.villages = v + 1;
        }

        private void blame(int number) {
            fault = number;
            place = start;
        }

        private void readWord(String word) {
            if (fault == 0) {
                advance();
                if (!spells(word)) {
                    blame(MISPLACED);
                }
            }
        }

        private int readSort() {
            if (fault != 0) {
                return VILLAGE;
            }
            advance();
            if (spells("calm")) {
                return CALM;
            }
            if (spells("lazy")) {
                return LAZY;
            }
            if (spells("proud")) {
                return PROUD;
            }
            if (spells("strong")) {
                return STRONG;
            }
            if (spells("awake")) {
                return AWAKE;
            }
            blame(MISPLACED);
            return VILLAGE;
        }

        private int readNumber(int least, int most) {
            if (fault != 0) {
                return 0;
            }
            advance();
            if (token != NUMBER) {
                blame(MISPLACED);
                return 0;
            }
            if (number < least || number > most) {
                blame(NOT_AS_TOLD);
                return 0;
            }
            return number;
        }

        private void readSign() {
            if (fault == 0) {
                advance();
                if (token != SIGN) {
                    blame(MISPLACED);
                }
            }
        }

        private void advance() {
            while (at < length && (bytes[at] == ' ' || bytes[at] == '\n')) {
                at++;
            }
            start = at;
            if (at >= length) {
                token = END;
            } else if (isLetter(bytes[at])) {
                token = NAME;
                while (at < length && isLetter(bytes[at])) {
                    at++;
                }
            } else if (isFigure(bytes[at])) {
                advanceNumber();
            } else {
                token = bytes[at] == ';' ? SIGN : NOTHING;
                at++;
            }
        }

        private void advanceNumber() {
            number = 0;
            while (at < length && isFigure(bytes[at])) {
                // Figures beyond the third make it none; they are left out lest the number grows too great.
                if (at - start < MOST_FIGURES) {
                    number = number * 10 + (bytes[at] - '0');
                }
                at++;
            }
            token = at - start <= MOST_FIGURES ? NUMBER : NOTHING;
        }

        private static boolean isLetter(int sign) {
            return sign >= 'a' && sign <= 'z';
        }

        private static boolean isFigure(int sign) {
            return sign >= '0' && sign <= '9';
        }

        private boolean spells(String word) {
            if (token != NAME || at - start != word.length()) {
                return false;
            }
            for (int i = 0; i < word.length(); i++) {
                if (bytes[start + i] != word.charAt(i)) {
                    return false;
                }
            }
            return true;
        }
    }
}
