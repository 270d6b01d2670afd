/**
 * A van, a street, its bells and its neighbours: what becomes of the parcels, and whether he rang.
 * Every answer is an int; refusals are the constants far below all that is counted.
 */
public final class WeWereIn {
    public static final int NONE = -1, UNKNOWN = -1000000001, OUTSIDE = -1000000002, NOT = -1000000003, FULL = -1000000004;

    private static final int MOST_LETTERS = 240, MOST_STOPS = 7, MOST_SEEN = 6, MOST_ENTRIES = 20;
    private static final int MOST_UNDONE = 30, IMAGES = 2, LAST_FREE_ROUND = 9000;
    private static final int HOURS = 12, HOUR_SECONDS = 3600, DAY_MINUTES = 720;
    private static final int HASTES = 4, YARDS = 100, BILLION = 1000000000;
    private static final int WAITS = 1, HANDED = 2, LEFT = 3, DEPOT = 4;

    private final Text text = new Text();
    private final Street draft = new Street();
    private final Street lane = new Street();
    private final Days now = new Days();
    private final Days untouched = new Days();
    private final Trip trip = new Trip();
    private final Past past = new Past();
    private final Seen seen = new Seen();
    private final Book book = new Book();
    private final Image[] images = {new Image(), new Image()};
    private final int[] slipsByHaste = new int[HASTES];
    private int dice = 0;

    public WeWereIn() {
    }

    // ---- the street

    public int feed(int letter) {
        if (!within(letter, 0, 255)) {
            return OUTSIDE;
        }
        return text.add(letter) ? text.length : FULL;
    }

    public int street() {
        text.readInto(draft);
        text.empty();
        if (text.fault != 0) {
            return -10 - text.fault;
        }
        lane.copy(draft);
        now.begin();
        past.forget();
        seen.forget();
        book.forget();
        for (int i = 0; i < IMAGES; i++) {
            images[i].kept = false;
        }
        return lane.stops;
    }

    public int fault() {
        return text.faultAt;
    }

    public int told(int what) {
        switch (what) {
            case 0: return lane.ringSeconds;
            case 1: return lane.yardSeconds;
            case 2: return lane.slipSeconds;
            case 3: return lane.stops;
            case 4: return text.length;
            case 5: return now.rounds;
            case 6: return now.seconds;
            case 7: return now.slips;
            case 8: return now.which(WAITS, lane.stops);
            case 9: return now.which(HANDED, lane.stops);
            case 10: return now.which(LEFT, lane.stops);
            case 11: return now.which(DEPOT, lane.stops);
            case 12: return seen.size;
            case 13: return book.size;
            case 14: return past.size;
            default: return OUTSIDE;
        }
    }

    public int stop(int s, int what) {
        if (!lane.has(s)) {
            return UNKNOWN;
        }
        switch (what) {
            case 0: return lane.yard[s];
            case 1: return lane.hoursIn[s];
            case 2: return lane.bell[s];
            case 3: return now.is[s];
            case 4: return lane.neighbour[s];
            case 5: return lane.most[s];
            case 6: return now.took[s];
            default: return OUTSIDE;
        }
    }

    public int din(int hour) {
        return within(hour, 0, HOURS - 1) ? lane.dinOf(hour) : OUTSIDE;
    }

    // ---- deeds

    public int round(int way, int h) {
        int refusal = refusalOfTrip(way, h);
        if (refusal != 0) {
            return refusal;
        }
        if (now.rounds > LAST_FREE_ROUND) {
            return FULL;
        }
        past.push(now);
        drive(way, h);
        return trip.back;
    }

    public int fetch(int s) {
        if (!lane.has(s)) {
            return UNKNOWN;
        }
        int was = now.is[s];
        if (was != LEFT && was != DEPOT) {
            return NOT;
        }
        past.push(now);
        now.is[s] = HANDED;
        return was == LEFT ? 1 : 0;
    }

    public int order(int s) {
        if (!lane.has(s)) {
            return UNKNOWN;
        }
        if (now.is[s] != HANDED) {
            return NOT;
        }
        past.push(now);
        now.is[s] = WAITS;
        return 1;
    }

    public int thank(int s) {
        if (!lane.has(s)) {
            return UNKNOWN;
        }
        if (lane.neighbour[s] == NONE) {
            return NOT;
        }
        past.push(now);
        int taken = now.took[s];
        now.took[s] = 0;
        return taken;
    }

    public int drift(int n) {
        if (!within(n, 1, 20)) {
            return OUTSIDE;
        }
        if (lane.stops == 0) {
            return NOT;
        }
        if (now.rounds > LAST_FREE_ROUND) {
            return FULL;
        }
        int way = lane.risingWay();
        for (int i = 0; i < n; i++) {
            past.push(now);
            orderByDraw();
            drive(way, draw(HASTES));
        }
        return now.seconds;
    }

    public int undo(int n) {
        if (!within(n, 1, MOST_UNDONE)) {
            return OUTSIDE;
        }
        if (n > past.size) {
            return NOT;
        }
        past.pop(n, now);
        return now.rounds;
    }

    // ---- tried

    public int comes(int s, int way, int h) {
        if (!lane.has(s)) {
            return UNKNOWN;
        }
        int refusal = refusalOfTrip(way, h);
        if (refusal != 0) {
            return refusal;
        }
        trip.run(lane, way, now, h);
        return trip.there[s];
    }

    public int home(int way, int h) {
        int refusal = refusalOfTrip(way, h);
        if (refusal != 0) {
            return refusal;
        }
        trip.run(lane, way, now, h);
        return trip.back;
    }

    public int outcome(int way, int h) {
        int refusal = refusalOfTrip(way, h);
        if (refusal != 0) {
            return refusal;
        }
        trip.run(lane, way, now, h);
        int figures = 0;
        for (int s = 0; s < lane.stops; s++) {
            figures = figures * 10 + trip.after.is[s];
        }
        return figures;
    }

    public int bath(int s, int a, int b, int m) {
        if (!lane.has(s) || !lane.isWay(a) || !lane.isWay(b)) {
            return UNKNOWN;
        }
        if (!within(m, 1, 99)) {
            return OUTSIDE;
        }
        trip.run(lane, a, now, 0);
        int byA = trip.there[s];
        trip.run(lane, b, now, 0);
        int byB = trip.there[s];
        for (int t = 0; t <= DAY_MINUTES - 1 - m; t++) {
            int from = 60 * t;
            int last = 60 * (t + m) - 1;
            if (!within(byA, from, last) && !within(byB, from, last)) {
                return t;
            }
        }
        return NONE;
    }

    public int bestWay(int h, int what) {
        if (!within(h, 0, HASTES - 1) || !within(what, 0, 2)) {
            return OUTSIDE;
        }
        Search search = new Search(lane, now, h);
        search.seek();
        switch (what) {
            case 0: return search.way;
            case 1: return search.handed;
            default: return search.back;
        }
    }

    public int pretends(int way, int h, int what) {
        int refusal = refusalOfTrip(way, h);
        if (refusal != 0) {
            return refusal;
        }
        if (!within(what, 0, 1)) {
            return OUTSIDE;
        }
        trip.run(lane, way, now, 0);
        int backHonest = trip.back;
        int handedHonest = trip.handed;
        trip.run(lane, way, now, h);
        return what == 0 ? backHonest - trip.back : handedHonest - trip.handed + 100;
    }

    public int locker(int way, int d, int what) {
        if (!lane.isWay(way)) {
            return UNKNOWN;
        }
        if (!within(d, 0, YARDS - 1) || !within(what, 0, 1)) {
            return OUTSIDE;
        }
        trip.run(lane, way, now, 0);
        int bestYard = 0;
        int most = 0;
        for (int y = 0; y < YARDS; y++) {
            int helped = lane.countNear(trip.slipped, y, d);
            if (helped > most) {
                most = helped;
                bestYard = y;
            }
        }
        return what == 0 ? bestYard : most;
    }

    public int bears(int s) {
        return lane.has(s) ? lane.most[s] - now.took[s] : UNKNOWN;
    }

    public int heard(int n, int q) {
        if (!within(n, 0, 60) || !within(q, 0, 100)) {
            return OUTSIDE;
        }
        long unheard = BILLION;
        for (int i = 0; i < n; i++) {
            unheard = unheard * (100 - q) / 100;
        }
        return (int) (BILLION - unheard);
    }

    // ---- what was seen

    public int see(int s, boolean slip) {
        if (!lane.has(s)) {
            return UNKNOWN;
        }
        return seen.add(s, slip) ? seen.size : FULL;
    }

    public int rang(int way, int what) {
        if (!lane.isWay(way)) {
            return UNKNOWN;
        }
        if (!within(what, 0, 1)) {
            return OUTSIDE;
        }
        int fitting = 0;
        for (int h = 0; h < HASTES; h++) {
            trip.run(lane, way, untouched, h);
            slipsByHaste[h] = trip.slipped;
            if (seen.fits(trip.slipped)) {
                fitting |= 1 << h;
            }
        }
        return what == 0 ? fitting : bestToAsk(fitting);
    }

    public int write(int s, int is) {
        if (!lane.has(s)) {
            return UNKNOWN;
        }
        if (!within(is, WAITS, DEPOT)) {
            return OUTSIDE;
        }
        return book.add(s, is) ? book.size : FULL;
    }

    public int judge() {
        return book.firstWrong(now);
    }

    public int tear() {
        int both = seen.size + book.size;
        seen.forget();
        book.forget();
        return both;
    }

    // ---- images

    public int seed(int v) {
        if (v < 0) {
            return OUTSIDE;
        }
        int was = dice;
        dice = v;
        return was;
    }

    public int keep(int i) {
        if (!within(i, 0, IMAGES - 1)) {
            return UNKNOWN;
        }
        images[i].days.copy(now);
        images[i].dice = dice;
        images[i].kept = true;
        past.forget();
        return 1;
    }

    public int goBack(int i) {
        if (!within(i, 0, IMAGES - 1)) {
            return UNKNOWN;
        }
        if (!images[i].kept) {
            return NOT;
        }
        now.copy(images[i].days);
        dice = images[i].dice;
        past.forget();
        return 1;
    }

    // ---- what several calls share

    private static boolean within(int value, int low, int high) {
        return value >= low && value <= high;
    }

    /** Whether he rings at the turn-th stop that he comes to (1 on). */
    private static boolean ringsAt(int turn, int haste) {
        return !within(haste, 1, HASTES - 1) || turn % (5 - haste) != 0;
    }

    /** 0 if such a trip can be made. */
    private int refusalOfTrip(int way, int h) {
        if (!lane.isWay(way)) {
            return UNKNOWN;
        }
        return within(h, 0, HASTES - 1) ? 0 : OUTSIDE;
    }

    private void drive(int way, int h) {
        trip.run(lane, way, now, h);
        now.copy(trip.after);
    }

    private int draw(int n) {
        dice = (int) ((dice * 1103515245L + 12345L) & 0x7fffffffL);
        return n < 1 ? 0 : dice / 65536 % n;
    }

    private void orderByDraw() {
        int s = draw(lane.stops);
        if (lane.has(s) && now.is[s] == HANDED) {
            now.is[s] = WAITS;
        }
    }

    /** The stop whose slip parts the hastes of the set best; rang() has filled slipsByHaste. */
    private int bestToAsk(int fitting) {
        int all = Integer.bitCount(fitting);
        int least = all;
        int ask = NONE;
        for (int s = 0; s < lane.stops; s++) {
            int slips = 0;
            for (int h = 0; h < HASTES; h++) {
                slips += (fitting >> h) & (slipsByHaste[h] >> s) & 1;
            }
            int alike = Math.max(slips, all - slips);
            if (alike < least) {
                least = alike;
                ask = s;
            }
        }
        return ask;
    }

    /** The street as a text tells it; without one there are no stops and all is 0. */
    private static final class Street {
        private int ringSeconds = 0;
        private int yardSeconds = 0;
        private int slipSeconds = 0;
        private int stops = 0;
        private int dins = 0;
        private final int[] yard = new int[MOST_STOPS];
        private final int[] hoursIn = new int[MOST_STOPS];
        private final int[] bell = new int[MOST_STOPS];
        private final int[] neighbour = new int[MOST_STOPS];
        private final int[] most = new int[MOST_STOPS];
        private final int[] din = new int[HOURS];

        private void begin() {
            ringSeconds = 0;
            yardSeconds = 0;
            slipSeconds = 0;
            stops = 0;
            dins = 0;
        }

        private void copy(Street other) {
            ringSeconds = other.ringSeconds;
            yardSeconds = other.yardSeconds;
            slipSeconds = other.slipSeconds;
            stops = other.stops;
            dins = other.dins;
            System.arraycopy(other.yard, 0, yard, 0, MOST_STOPS);
            System.arraycopy(other.hoursIn, 0, hoursIn, 0, MOST_STOPS);
            System.arraycopy(other.bell, 0, bell, 0, MOST_STOPS);
            System.arraycopy(other.neighbour, 0, neighbour, 0, MOST_STOPS);
            System.arraycopy(other.most, 0, most, 0, MOST_STOPS);
            System.arraycopy(other.din, 0, din, 0, HOURS);
        }

        private void addStop(int x, int in, int b) {
            if (stops >= MOST_STOPS) {
                return;
            }
            yard[stops] = x;
            hoursIn[stops] = in;
            bell[stops] = b;
            neighbour[stops] = NONE;
            most[stops] = 0;
            stops++;
        }

        private void addDin(int loud) {
            if (dins < HOURS) {
                din[dins] = loud;
                dins++;
            }
        }

        private boolean has(int s) {
            return s >= 0 && s < stops;
        }

        /** Its figures are stops, none of them twice, one at least. */
        private boolean isWay(int way) {
            int used = 0;
            for (int rest = way; rest > 0; rest /= 10) {
                int s = rest % 10 - 1;
                if (!has(s) || ((used >> s) & 1) != 0) {
                    return false;
                }
                used |= 1 << s;
            }
            return used != 0;
        }

        private int risingWay() {
            int way = 0;
            for (int s = 0; s < stops; s++) {
                way = way * 10 + s + 1;
            }
            return way;
        }

        private int dinOf(int hour) {
            return hour < 0 || dins < 1 ? 0 : din[hour % dins];
        }

        private boolean isIn(int s, int hour) {
            return has(s) && within(hour, 0, HOURS - 1) && ((hoursIn[s] >> hour) & 1) != 0;
        }

        /** What a stop that counts becomes, if he is there at this second. */
        private int meets(int s, int second, boolean rings, int taken) {
            if (!has(s)) {
                return DEPOT;
            }
            int hour = second / HOUR_SECONDS;
            if (rings && isIn(s, hour) && dinOf(hour) < bell[s]) {
                return HANDED;
            }
            return isIn(neighbour[s], hour) && taken < most[s] ? LEFT : DEPOT;
        }

        private int secondsAtDoor(boolean rings, int becomes) {
            return (rings ? ringSeconds : 0) + (becomes == HANDED ? 0 : slipSeconds);
        }

        private int secondsBetween(int x, int y) {
            return Math.abs(x - y) * yardSeconds;
        }

        /** How many stops of the set are d yards or fewer from yard y. */
        private int countNear(int set, int y, int d) {
            int near = 0;
            for (int s = 0; s < stops; s++) {
                if (((set >> s) & 1) != 0 && Math.abs(yard[s] - y) <= d) {
                    near++;
                }
            }
            return near;
        }
    }

    /** The letters fed so far, and how they are read; the first fault ends the reading. */
    private static final class Text {
        private static final int MISPLACED = 1, OUT_OF_BOUNDS = 2, TOO_OFTEN = 3, BAD_NEIGHBOUR = 4;
        private static final int MOST_FIGURES = 4;

        private final int[] letters = new int[MOST_LETTERS];
        private int length = 0;
        private int fault = 0;
        private int faultAt = NONE;
        private int at = 0;
        private int numberAt = 0;

        private boolean add(int letter) {
            if (length >= MOST_LETTERS) {
                return false;
            }
            letters[length] = letter;
            length++;
            return true;
        }

        private void empty() {
            length = 0;
        }

        /** Afterwards fault is 0 and the street is whole, or fault tells why it is not. */
        private void readInto(Street told) {
            told.begin();
            fault = 0;
            faultAt = NONE;
            at = 0;
            for (int clause = 0; clause < MOST_LETTERS && fault == 0; clause++) {
                int word = peek();
                if (word == NONE) {
                    return;
                }
                readClause(told, word);
            }
        }

        private void readClause(Street told, int word) {
            // R is 1 at least, so 0 means that 'v' was not told yet
            boolean vanTold = told.ringSeconds > 0;
            if (!vanTold && word != 'v') {
                fail(MISPLACED, at);
                return;
            }
            switch (word) {
                case 'v': readVan(told, vanTold); break;
                case 's': readStop(told); break;
                case 'd': readDin(told); break;
                case 'n': readNeighbour(told); break;
                default: fail(MISPLACED, at); break;
            }
        }

        private void readVan(Street told, boolean again) {
            if (again) {
                fail(TOO_OFTEN, at);
            }
            at++;
            told.ringSeconds = number(1, 90);
            told.yardSeconds = number(0, 99);
            told.slipSeconds = number(1, 30);
            endClause();
        }

        private void readStop(Street told) {
            if (told.stops >= MOST_STOPS) {
                fail(TOO_OFTEN, at);
            }
            at++;
            int x = number(0, YARDS - 1);
            int in = number(0, (1 << HOURS) - 1);
            int bell = number(0, 9);
            endClause();
            told.addStop(x, in, bell);
        }

        private void readDin(Street told) {
            if (told.dins > 0) {
                fail(TOO_OFTEN, at);
            }
            at++;
            told.addDin(number(0, 9));
            for (int more = 1; more <= HOURS && peek() == ','; more++) {
                if (more == HOURS) {
                    fail(MISPLACED, at);
                }
                at++;
                told.addDin(number(0, 9));
            }
            endClause();
        }

        private void readNeighbour(Street told) {
            at++;
            int s = number(0, told.stops - 1);
            if (told.has(s) && told.neighbour[s] != NONE) {
                fail(BAD_NEIGHBOUR, numberAt);
            }
            int t = number(0, told.stops - 1);
            if (t == s) {
                fail(BAD_NEIGHBOUR, numberAt);
            }
            int most = number(1, 9);
            endClause();
            if (fault == 0 && told.has(s)) {
                told.neighbour[s] = t;
                told.most[s] = most;
            }
        }

        /** The next number; NONE behind a fault. */
        private int number(int low, int high) {
            if (!isFigure(peek())) {
                fail(MISPLACED, at);
            }
            if (fault != 0) {
                return NONE;
            }
            numberAt = at;
            int value = 0;
            int figures = 0;
            while (at < length && isFigure(letters[at])) {
                figures++;
                // further figures are only counted: the value could grow too big
                if (figures <= MOST_FIGURES) {
                    value = value * 10 + letters[at] - '0';
                }
                at++;
            }
            if (figures > MOST_FIGURES || !within(value, low, high)) {
                fail(OUT_OF_BOUNDS, numberAt);
                return NONE;
            }
            return value;
        }

        private void endClause() {
            if (peek() != ';') {
                fail(MISPLACED, at);
            }
            at++;
        }

        /** The next letter that is no blank, at which the reading then stands; NONE: the end. */
        private int peek() {
            while (at < length && letters[at] == ' ') {
                at++;
            }
            return within(at, 0, length - 1) ? letters[at] : NONE;
        }

        private static boolean isFigure(int letter) {
            return within(letter, '0', '9');
        }

        /** Only the first counts: reading goes forward, so it is the one at the first letter. */
        private void fail(int number, int where) {
            if (fault == 0) {
                fault = number;
                faultAt = where;
            }
        }
    }

    /** What stops are, what neighbours took, and what was counted: all that can be undone. */
    private static final class Days {
        private final int[] is = new int[MOST_STOPS];
        private final int[] took = new int[MOST_STOPS];
        private int rounds = 0;
        private int seconds = 0;
        private int slips = 0;

        private Days() {
            begin();
        }

        private void begin() {
            for (int s = 0; s < MOST_STOPS; s++) {
                is[s] = WAITS;
                took[s] = 0;
            }
            rounds = 0;
            seconds = 0;
            slips = 0;
        }

        private void copy(Days other) {
            System.arraycopy(other.is, 0, is, 0, MOST_STOPS);
            System.arraycopy(other.took, 0, took, 0, MOST_STOPS);
            rounds = other.rounds;
            seconds = other.seconds;
            slips = other.slips;
        }

        /** Whether a parcel is to be brought there. */
        private boolean counts(int s) {
            return is[s] == WAITS || is[s] == DEPOT;
        }

        private int which(int kind, int stops) {
            int set = 0;
            for (int s = 0; s < stops && s < MOST_STOPS; s++) {
                if (is[s] == kind) {
                    set |= 1 << s;
                }
            }
            return set;
        }
    }

    /** One round, tried on a copy of the days. */
    private static final class Trip {
        private final Days after = new Days();
        private final int[] there = new int[MOST_STOPS];
        private int back = 0;
        private int handed = 0;
        private int slipped = 0;
        private int turn = 0;
        private int second = 0;
        private int yard = 0;

        private void run(Street lane, int way, Days before, int haste) {
            begin(before);
            for (int unit = firstUnit(way); unit > 0; unit /= 10) {
                int s = way / unit % 10 - 1;
                if (lane.has(s)) {
                    call(lane, s, haste);
                }
            }
            back = second + lane.secondsBetween(yard, 0);
            after.rounds++;
            after.seconds += back;
            after.slips += Integer.bitCount(slipped);
        }

        private void begin(Days before) {
            after.copy(before);
            for (int s = 0; s < MOST_STOPS; s++) {
                there[s] = NONE;
            }
            handed = 0;
            slipped = 0;
            turn = 0;
            second = 0;
            yard = 0;
        }

        /** What one of the first figure of the way is worth. */
        private static int firstUnit(int way) {
            int unit = 1;
            for (int figures = 1; figures < 10 && way / unit >= 10; figures++) {
                unit *= 10;
            }
            return unit;
        }

        private void call(Street lane, int s, int haste) {
            second += lane.secondsBetween(yard, lane.yard[s]);
            yard = lane.yard[s];
            there[s] = second;
            if (!after.counts(s)) {
                return;
            }
            turn++;
            boolean rings = ringsAt(turn, haste);
            int becomes = lane.meets(s, second, rings, after.took[s]);
            second += lane.secondsAtDoor(rings, becomes);
            after.is[s] = becomes;
            if (becomes == HANDED) {
                handed++;
            } else if (becomes == LEFT) {
                after.took[s]++;
            } else {
                slipped |= 1 << s;
            }
        }
    }

    /** The best way over the stops that count now; all is NONE where none does. */
    private static final class Search {
        private final Street lane;
        private final Days now;
        private final int haste;
        private final int open;
        private final int size;
        private int way = NONE;
        private int handed = NONE;
        private int back = NONE;

        private Search(Street lane, Days now, int haste) {
            this.lane = lane;
            this.now = now;
            this.haste = haste;
            this.open = now.which(WAITS, lane.stops) | now.which(DEPOT, lane.stops);
            this.size = Integer.bitCount(open);
        }

        private void seek() {
            if (size > 0) {
                extend(this, 0, 0, 0, 0, 0, 0);
            }
        }

        /** Tries all ways that go on from a row of depth stops, the lesser numbers first. */
        private static void extend(Search in, int depth, int used, int yard, int second, int given, int row) {
            int soonest = second + in.lane.secondsBetween(yard, 0);
            if (!in.canBeat(given + in.size - depth, soonest)) {
                return;
            }
            if (depth >= in.size || depth >= MOST_STOPS) {
                in.settle(row, given, soonest);
                return;
            }
            boolean rings = ringsAt(depth + 1, in.haste);
            for (int s = 0; s < in.lane.stops; s++) {
                if ((((in.open & ~used) >> s) & 1) == 0) {
                    continue;
                }
                int x = in.lane.yard[s];
                int there = second + in.lane.secondsBetween(yard, x);
                int becomes = in.lane.meets(s, there, rings, in.now.took[s]);
                int gone = there + in.lane.secondsAtDoor(rings, becomes);
                int got = becomes == HANDED ? given + 1 : given;
                extend(in, depth + 1, used | (1 << s), x, gone, got, row * 10 + s + 1);
            }
        }

        /** A way that only equals the best so far has the greater number, so it must be better. */
        private boolean canBeat(int mostHanded, int soonestBack) {
            return mostHanded > handed || (mostHanded == handed && soonestBack < back);
        }

        private void settle(int row, int given, int soonest) {
            way = row;
            handed = given;
            back = soonest;
        }
    }

    /** The days ahead of the latest deeds, in a ring: the oldest gives way to the newest. */
    private static final class Past {
        private final Days[] ahead = new Days[MOST_UNDONE];
        private int next = 0;
        private int size = 0;

        private Past() {
            for (int i = 0; i < MOST_UNDONE; i++) {
                ahead[i] = new Days();
            }
        }

        private void forget() {
            size = 0;
        }

        private void push(Days now) {
            ahead[next].copy(now);
            next = (next + 1) % MOST_UNDONE;
            size = Math.min(size + 1, MOST_UNDONE);
        }

        private void pop(int n, Days now) {
            if (!within(n, 1, size)) {
                return;
            }
            next = (next + MOST_UNDONE - n) % MOST_UNDONE;
            size -= n;
            now.copy(ahead[next]);
        }
    }

    /** Which stops were seen to get a slip, or none. */
    private static final class Seen {
        private final int[] stop = new int[MOST_SEEN];
        private final boolean[] slip = new boolean[MOST_SEEN];
        private int size = 0;

        private void forget() {
            size = 0;
        }

        private boolean add(int s, boolean got) {
            if (size >= MOST_SEEN) {
                return false;
            }
            stop[size] = s;
            slip[size] = got;
            size++;
            return true;
        }

        /** Whether all is so, if just the stops of the set got a slip. */
        private boolean fits(int slipped) {
            for (int i = 0; i < size; i++) {
                boolean got = ((slipped >> stop[i]) & 1) != 0;
                if (got != slip[i]) {
                    return false;
                }
            }
            return true;
        }
    }

    /** What was written of stops. */
    private static final class Book {
        private final int[] stop = new int[MOST_ENTRIES];
        private final int[] is = new int[MOST_ENTRIES];
        private int size = 0;

        private void forget() {
            size = 0;
        }

        private boolean add(int s, int said) {
            if (size >= MOST_ENTRIES) {
                return false;
            }
            stop[size] = s;
            is[size] = said;
            size++;
            return true;
        }

        private int firstWrong(Days now) {
            for (int i = 0; i < size; i++) {
                if (now.is[stop[i]] != is[i]) {
                    return i;
                }
            }
            return NONE;
        }
    }

    private static final class Image {
        private final Days days = new Days();
        private int dice = 0;
        private boolean kept = false;
    }
}
