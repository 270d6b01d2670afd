import java.util.ArrayList;
import java.util.Arrays;
import java.util.List;
import java.util.Random;

/** All promises: random runs of calls, each answer against a slow model that is written another way. */
public final class ModelTest {
    private static final int RUNS = 6000;
    /** An object is used for so many calls; what later ones answer is free. */
    private static final int CALLS = 512;
    /** More than any one step of a run needs. */
    private static final int STEP = 100;

    public static void main(String[] args) {
        for (int run = 0; run < RUNS; run++) {
            new ModelTest(run).play();
        }
        Check.end();
    }

    /** What can be undone. */
    private static final class Mark {
        int[] is = new int[7];
        int[] took = new int[7];
        int rounds, seconds, slips;

        Mark() {
            Arrays.fill(is, 1);
        }

        Mark(Mark m) {
            is = m.is.clone();
            took = m.took.clone();
            rounds = m.rounds;
            seconds = m.seconds;
            slips = m.slips;
        }
    }

    /** One trip, tried. */
    private static final class Tried {
        Mark end;
        int[] there = {-1, -1, -1, -1, -1, -1, -1};
        int home, handed;
        List<Integer> slips = new ArrayList<>();
    }

    private static final class Fault extends Exception {
        private static final long serialVersionUID = 1L;
        final int number, at;

        Fault(int number, int at) {
            this.number = number;
            this.at = at;
        }
    }

    private final int run;
    private int calls = 0;
    private final Random random;
    private final WeWereIn x = new WeWereIn();
    private String text = "";
    private int fault = -1;
    private int[] van = {0, 0, 0};
    private List<int[]> stops = new ArrayList<>();
    private List<Integer> dins = new ArrayList<>();
    private int[][] neighbours = new int[7][];
    private Mark now = new Mark();
    private final List<Mark> past = new ArrayList<>();
    private final Mark[] images = new Mark[2];
    private final long[] imageSeeds = new long[2];
    private long seed = 0;
    private final List<int[]> seen = new ArrayList<>();
    private final List<int[]> book = new ArrayList<>();

    private ModelTest(int run) {
        this.run = run;
        this.random = new Random(run * 7919L + 5);
    }

    /** Every call of the object stands in one of these. */
    private void due(String call, int got, int want) {
        calls++;
        Check.due("run " + run + ": " + call, got, want);
    }

    private void play() {
        String text = randomText();
        if (run % 2 == 0) {
            readIfItFits(spoiled(text));
        }
        readIfItFits(text);
        while (calls + STEP <= CALLS) {
            switch (random.nextInt(8)) {
                case 0: ask(); break;
                case 1: case 2: deed(); break;
                case 3: image(); break;
                case 4: watch(); break;
                default: attempt(); break;
            }
            if (random.nextInt(25) == 0) {
                everything();
            }
            if (random.nextInt(100) == 0) {
                String next = randomText();
                readIfItFits(random.nextBoolean() ? next : spoiled(next));
            }
        }
        Check.due("run " + run + ": 512 calls at most", calls <= CALLS, true);
    }

    private void readIfItFits(String text) {
        if (calls + text.length() + 2 <= CALLS) {
            read(text);
        }
    }

    // ---- the street

    private String randomText() {
        StringBuilder t = new StringBuilder();
        int d = random.nextInt(3) == 0 ? random.nextInt(100) : 20 + random.nextInt(80);
        t.append("v").append(1 + random.nextInt(90)).append(' ').append(d).append(' ').append(1 + random.nextInt(30)).append(';');
        int n = random.nextInt(8);
        for (int s = 0; s < n; s++) {
            int in = random.nextInt(3) == 0 ? 4095 : random.nextInt(4096);
            t.append('s').append(random.nextInt(100)).append(' ').append(in).append(' ').append(random.nextInt(10)).append(';');
        }
        if (random.nextBoolean()) {
            t.append('d').append(random.nextInt(10));
            for (int k = random.nextInt(12); k > 0; k--) {
                t.append(',').append(random.nextInt(10));
            }
            t.append(';');
        }
        for (int s = 0; s < n && n > 1; s++) {
            int other = random.nextInt(n);
            if (other != s) {
                t.append('n').append(s).append(' ').append(other).append(' ').append(1 + random.nextInt(9) / 3).append(';');
            }
        }
        return t.toString();
    }

    private String spoiled(String t) {
        StringBuilder s = new StringBuilder(t);
        for (int k = 1 + random.nextInt(2); k > 0 && s.length() > 0; k--) {
            int at = random.nextInt(s.length());
            String letters = "vsdn;,0123456789  x";
            char c = letters.charAt(random.nextInt(letters.length()));
            switch (random.nextInt(4)) {
                case 0: s.insert(at, c); break;
                case 1: s.setCharAt(at, c); break;
                case 2: s.deleteCharAt(at); break;
                default: s.insert(at, s.substring(at, Math.min(s.length(), at + random.nextInt(12)))); break;
            }
        }
        return s.toString();
    }

    private void read(String t) {
        for (int i = 0; i < t.length(); i++) {
            int answer = x.feed(t.charAt(i));
            if (text.length() < 240) {
                text += t.charAt(i);
                due("feed", answer, text.length());
            } else {
                due("feed", answer, Check.FULL);
            }
        }
        String told = text;
        text = "";
        int[] van = {0, 0, 0};
        List<int[]> stops = new ArrayList<>();
        List<Integer> dins = new ArrayList<>();
        int[][] neighbours = new int[7][];
        try {
            parse(told, van, stops, dins, neighbours);
        } catch (Fault f) {
            fault = f.at;
            due("street of " + told, x.street(), -10 - f.number);
            due("fault of " + told, x.fault(), fault);
            return;
        }
        fault = -1;
        this.van = van;
        this.stops = stops;
        this.dins = dins;
        this.neighbours = neighbours;
        now = new Mark();
        past.clear();
        seen.clear();
        book.clear();
        images[0] = null;
        images[1] = null;
        due("street of " + told, x.street(), stops.size());
        due("fault of " + told, x.fault(), -1);
    }

    /** By words: each clause is a form, in which N is a number. */
    private static void parse(String t, int[] van, List<int[]> stops, List<Integer> dins, int[][] neighbours) throws Fault {
        List<String> words = new ArrayList<>();
        List<Integer> places = new ArrayList<>();
        for (int i = 0; i < t.length(); i++) {
            if (t.charAt(i) == ' ') {
                continue;
            }
            int end = i + 1;
            while (isFigure(t.charAt(i)) && end < t.length() && isFigure(t.charAt(end))) {
                end++;
            }
            words.add(t.substring(i, end));
            places.add(i);
            i = end - 1;
        }
        places.add(t.length());
        int p = 0;
        while (p < words.size()) {
            String word = words.get(p);
            if (!"vsdn".contains(word) || (p == 0) && !word.equals("v")) {
                throw new Fault(1, places.get(p));
            }
            if (p > 0 && word.equals("v") || word.equals("d") && !dins.isEmpty() || word.equals("s") && stops.size() == 7) {
                throw new Fault(3, places.get(p));
            }
            int[] low = word.equals("v") ? new int[] {1, 0, 1} : word.equals("n") ? new int[] {0, 0, 1} : new int[12];
            int last = stops.size() - 1;
            int[] high = word.equals("v") ? new int[] {90, 99, 30} : word.equals("s") ? new int[] {99, 4095, 9}
                : word.equals("n") ? new int[] {last, last, 9} : new int[] {9, 9, 9, 9, 9, 9, 9, 9, 9, 9, 9, 9};
            int[] got = new int[12];
            int k = 0;
            p++;
            while (true) {
                got[k] = numberAt(words, places, p, low[k], high[k]);
                if (word.equals("n") && (k == 0 && neighbours[got[0]] != null || k == 1 && got[0] == got[1])) {
                    throw new Fault(4, places.get(p));
                }
                p++;
                k++;
                String next = p < words.size() ? words.get(p) : "";
                if (next.equals(";") && (word.equals("d") || k == 3)) {
                    p++;
                    break;
                }
                if (word.equals("d") ? !next.equals(",") || k == 12 : k == 3) {
                    throw new Fault(1, places.get(p));
                }
                p += word.equals("d") ? 1 : 0;
            }
            switch (word.charAt(0)) {
                case 'v': System.arraycopy(got, 0, van, 0, 3); break;
                case 's': stops.add(got); break;
                case 'n': neighbours[got[0]] = new int[] {got[1], got[2]}; break;
                default:
                    for (int i = 0; i < k; i++) {
                        dins.add(got[i]);
                    }
            }
        }
    }

    private static boolean isFigure(char c) {
        return c >= '0' && c <= '9';
    }

    private static int numberAt(List<String> words, List<Integer> places, int p, int low, int high) throws Fault {
        if (p >= words.size() || !isFigure(words.get(p).charAt(0))) {
            throw new Fault(1, places.get(p));
        }
        if (words.get(p).length() > 4 || Integer.parseInt(words.get(p)) < low || Integer.parseInt(words.get(p)) > high) {
            throw new Fault(2, places.get(p));
        }
        return Integer.parseInt(words.get(p));
    }

    private void everything() {
        int[] sets = new int[5];
        for (int s = 0; s < stops.size(); s++) {
            sets[now.is[s]] += 1 << s;
            int[] n = neighbours[s] == null ? new int[] {-1, 0} : neighbours[s];
            int[] of = {stops.get(s)[0], stops.get(s)[1], stops.get(s)[2], now.is[s], n[0], n[1], now.took[s]};
            for (int what = 0; what < 7; what++) {
                due("stop " + s + " " + what, x.stop(s, what), of[what]);
            }
            due("bears " + s, x.bears(s), n[1] - now.took[s]);
        }
        int[] all = {van[0], van[1], van[2], stops.size(), text.length(), now.rounds, now.seconds, now.slips,
            sets[1], sets[2], sets[3], sets[4], seen.size(), book.size(), past.size()};
        for (int what = 0; what < all.length; what++) {
            due("told " + what, x.told(what), all[what]);
        }
        for (int hour = 0; hour < 12; hour++) {
            due("din " + hour, x.din(hour), dinOf(hour));
        }
        due("fault", x.fault(), fault);
    }

    private void ask() {
        int what = odd(15);
        int s = odd(stops.size());
        if (!known(s)) {
            due("stop " + s, x.stop(s, what), Check.UNKNOWN);
            due("bears " + s, x.bears(s), Check.UNKNOWN);
        }
        if (what < 0 || what > 14) {
            due("told " + what, x.told(what), Check.OUTSIDE);
            due("din " + what, x.din(what), Check.OUTSIDE);
        }
        int n = odd(61);
        int q = odd(101);
        boolean bounds = n >= 0 && n <= 60 && q >= 0 && q <= 100;
        double unheard = 1000000000;
        for (int i = 0; bounds && i < n; i++) {
            unheard = Math.floor(unheard * (100 - q) / 100);
        }
        due("heard " + n + " " + q, x.heard(n, q), bounds ? 1000000000 - (int) unheard : Check.OUTSIDE);
    }

    // ---- trips

    /** A number of 0 to n - 1, seldom one that is not. */
    private int odd(int n) {
        switch (random.nextInt(24)) {
            case 0: return -1;
            case 1: return n;
            case 2: return random.nextInt();
            default: return n < 1 ? 0 : random.nextInt(n);
        }
    }

    private int randomWay() {
        if (random.nextInt(16) == 0) {
            return random.nextBoolean() ? random.nextInt(2000) - 5 : random.nextInt();
        }
        List<Integer> left = new ArrayList<>();
        for (int s = 1; s <= stops.size(); s++) {
            left.add(s);
        }
        java.util.Collections.shuffle(left, random);
        int way = 0;
        int size = random.nextBoolean() ? left.size() : Math.min(left.size(), 1 + random.nextInt(7));
        for (int i = 0; i < size; i++) {
            way = way * 10 + left.get(i);
        }
        return way;
    }

    private boolean known(int s) {
        return s >= 0 && s < stops.size();
    }

    private boolean isWay(int way) {
        String figures = Integer.toString(way);
        for (char c : figures.toCharArray()) {
            if (c < '1' || c >= '1' + stops.size() || figures.indexOf(c) != figures.lastIndexOf(c)) {
                return false;
            }
        }
        return true;
    }

    private int dinOf(int hour) {
        return dins.isEmpty() ? 0 : dins.get(hour % dins.size());
    }

    private boolean in(int s, int hour) {
        return hour < 12 && (stops.get(s)[1] & 1 << hour) != 0;
    }

    private Tried tryOut(Mark from, int way, int h) {
        Tried t = new Tried();
        t.end = new Mark(from);
        int clock = 0;
        int place = 0;
        int k = 0;
        for (char c : Integer.toString(way).toCharArray()) {
            int s = c - '1';
            clock += van[1] * Math.abs(stops.get(s)[0] - place);
            place = stops.get(s)[0];
            t.there[s] = clock;
            if (from.is[s] == 2 || from.is[s] == 3) {
                continue;
            }
            k++;
            int hour = clock / 3600;
            boolean silent = h == 1 && k % 4 == 0 || h == 2 && k % 3 == 0 || h == 3 && k % 2 == 0;
            clock += silent ? 0 : van[0];
            if (!silent && in(s, hour) && dinOf(hour) < stops.get(s)[2]) {
                t.end.is[s] = 2;
                t.handed++;
                continue;
            }
            clock += van[2];
            if (neighbours[s] != null && in(neighbours[s][0], hour) && from.took[s] < neighbours[s][1]) {
                t.end.is[s] = 3;
                t.end.took[s]++;
            } else {
                t.end.is[s] = 4;
                t.end.slips++;
                t.slips.add(s);
            }
        }
        t.home = clock + van[1] * place;
        t.end.rounds++;
        t.end.seconds += t.home;
        return t;
    }

    private void attempt() {
        int way = randomWay();
        int h = odd(4);
        int s = odd(stops.size());
        boolean hasteOk = h >= 0 && h <= 3;
        int refusal = !isWay(way) ? Check.UNKNOWN : !hasteOk ? Check.OUTSIDE : 0;
        Tried t = refusal == 0 ? tryOut(now, way, h) : null;
        switch (random.nextInt(7)) {
            case 0:
                due("comes " + s + " " + way + " " + h, x.comes(s, way, h), !known(s) ? Check.UNKNOWN : t == null ? refusal : t.there[s]);
                break;
            case 1:
                due("home " + way + " " + h, x.home(way, h), t == null ? refusal : t.home);
                break;
            case 2:
                due("outcome " + way + " " + h, x.outcome(way, h), t == null ? refusal : figures(t.end));
                break;
            case 3:
                tryBath(s, way);
                break;
            case 4:
                tryBest(h);
                break;
            case 5:
                int what = odd(2);
                int honest = t == null || what < 0 || what > 1 ? 0
                    : what == 0 ? tryOut(now, way, 0).home - t.home : tryOut(now, way, 0).handed - t.handed + 100;
                due("pretends " + way + " " + h + " " + what, x.pretends(way, h, what),
                    t == null ? refusal : what < 0 || what > 1 ? Check.OUTSIDE : honest);
                break;
            default:
                tryLocker(way);
                break;
        }
    }

    private int figures(Mark m) {
        String row = "0";
        for (int s = 0; s < stops.size(); s++) {
            row += m.is[s];
        }
        return Integer.parseInt(row);
    }

    private void tryBath(int s, int a) {
        int b = randomWay();
        int m = 1 + odd(99);
        int want = -1;
        if (!known(s) || !isWay(a) || !isWay(b)) {
            want = Check.UNKNOWN;
        } else if (m < 1 || m > 99) {
            want = Check.OUTSIDE;
        } else {
            int one = tryOut(now, a, 0).there[s];
            int two = tryOut(now, b, 0).there[s];
            for (int t = 719 - m; t >= 0; t--) {
                if ((one < 60 * t || one >= 60 * (t + m)) && (two < 60 * t || two >= 60 * (t + m))) {
                    want = t;
                }
            }
        }
        due("bath " + s + " " + a + " " + b + " " + m, x.bath(s, a, b, m), want);
    }

    private void tryBest(int h) {
        int what = odd(3);
        List<Integer> ways = new ArrayList<>();
        ways.add(0);
        for (int s = 0; s < stops.size(); s++) {
            if (now.is[s] == 1 || now.is[s] == 4) {
                ways = withOneMore(ways, s + 1);
            }
        }
        int[] best = {-1, -1, -1};
        if (ways.get(0) != 0 && h >= 0 && h <= 3) {
            for (int way : ways) {
                Tried t = tryOut(now, way, h);
                if (t.handed > best[1] || t.handed == best[1] && (t.home < best[2] || t.home == best[2] && way < best[0])) {
                    best = new int[] {way, t.handed, t.home};
                }
            }
        }
        boolean bounds = h >= 0 && h <= 3 && what >= 0 && what <= 2;
        due("bestWay " + h + " " + what, x.bestWay(h, what), bounds ? best[what] : Check.OUTSIDE);
    }

    private static List<Integer> withOneMore(List<Integer> ways, int figure) {
        List<Integer> more = new ArrayList<>();
        for (int way : ways) {
            String row = way == 0 ? "" : Integer.toString(way);
            for (int i = 0; i <= row.length(); i++) {
                more.add(Integer.parseInt(row.substring(0, i) + figure + row.substring(i)));
            }
        }
        return more;
    }

    private void tryLocker(int way) {
        int d = odd(random.nextBoolean() ? 100 : 9);
        int what = odd(2);
        int want;
        if (!isWay(way)) {
            want = Check.UNKNOWN;
        } else if (d < 0 || d > 99 || what < 0 || what > 1) {
            want = Check.OUTSIDE;
        } else {
            List<Integer> slips = tryOut(now, way, 0).slips;
            int[] best = {0, 0};
            for (int y = 99; y >= 0; y--) {
                int box = y;
                int helped = (int) slips.stream().filter(s -> Math.abs(stops.get(s)[0] - box) <= d).count();
                best = helped >= best[1] ? new int[] {y, helped} : best;
            }
            want = best[what];
        }
        due("locker " + way + " " + d + " " + what, x.locker(way, d, what), want);
    }

    // ---- deeds

    private void remember() {
        past.add(new Mark(now));
        if (past.size() > 30) {
            past.remove(0);
        }
    }

    private void deed() {
        int s = odd(stops.size());
        switch (random.nextInt(9)) {
            case 0: case 1: case 2: doRound(); break;
            case 3:
                boolean away = known(s) && now.is[s] >= 3;
                int from = away ? (now.is[s] == 3 ? 1 : 0) : known(s) ? Check.NOT : Check.UNKNOWN;
                due("fetch " + s, x.fetch(s), from);
                change(away, s, 2);
                break;
            case 4: case 5:
                boolean handed = known(s) && now.is[s] == 2;
                due("order " + s, x.order(s), handed ? 1 : known(s) ? Check.NOT : Check.UNKNOWN);
                change(handed, s, 1);
                break;
            case 6:
                boolean taken = known(s) && neighbours[s] != null;
                due("thank " + s, x.thank(s), taken ? now.took[s] : known(s) ? Check.NOT : Check.UNKNOWN);
                if (taken) {
                    remember();
                    now.took[s] = 0;
                }
                break;
            case 7: doDrift(); break;
            default: doUndo(); break;
        }
    }

    private void change(boolean may, int s, int is) {
        if (may) {
            remember();
            now.is[s] = is;
        }
    }

    private void doRound() {
        int way = randomWay();
        int h = odd(4);
        if (!isWay(way) || h < 0 || h > 3) {
            due("round " + way + " " + h, x.round(way, h), isWay(way) ? Check.OUTSIDE : Check.UNKNOWN);
            return;
        }
        remember();
        Tried t = tryOut(now, way, h);
        now = t.end;
        due("round " + way + " " + h, x.round(way, h), t.home);
    }

    private int draw(int n) {
        seed = (seed * 1103515245L + 12345L) % (1L << 31);
        return (int) (seed / 65536 % n);
    }

    private void doDrift() {
        int n = 1 + odd(20);
        if (n < 1 || n > 20 || stops.isEmpty()) {
            due("drift " + n, x.drift(n), n < 1 || n > 20 ? Check.OUTSIDE : Check.NOT);
            return;
        }
        int way = Integer.parseInt("1234567".substring(0, stops.size()));
        for (int i = 0; i < n; i++) {
            remember();
            int s = draw(stops.size());
            now.is[s] = now.is[s] == 2 ? 1 : now.is[s];
            now = tryOut(now, way, draw(4)).end;
        }
        due("drift " + n, x.drift(n), now.seconds);
    }

    private void doUndo() {
        int n = 1 + odd(random.nextBoolean() ? 3 : 30);
        boolean bounds = n >= 1 && n <= 30;
        if (bounds && n <= past.size()) {
            for (int i = 0; i < n; i++) {
                now = past.remove(past.size() - 1);
            }
            due("undo " + n, x.undo(n), now.rounds);
        } else {
            due("undo " + n, x.undo(n), bounds ? Check.NOT : Check.OUTSIDE);
        }
    }

    // ---- images, and what was seen

    private void image() {
        int i = odd(2);
        boolean there = i == 0 || i == 1;
        switch (random.nextInt(3)) {
            case 0:
                int v = random.nextInt();
                due("seed " + v, x.seed(v), v < 0 ? Check.OUTSIDE : (int) seed);
                seed = v < 0 ? seed : v;
                break;
            case 1:
                due("keep " + i, x.keep(i), there ? 1 : Check.UNKNOWN);
                if (there) {
                    images[i] = new Mark(now);
                    imageSeeds[i] = seed;
                    past.clear();
                }
                break;
            default:
                boolean kept = there && images[i] != null;
                due("goBack " + i, x.goBack(i), kept ? 1 : there ? Check.NOT : Check.UNKNOWN);
                if (kept) {
                    now = new Mark(images[i]);
                    seed = imageSeeds[i];
                    past.clear();
                }
                break;
        }
    }

    private void watch() {
        int s = odd(stops.size());
        switch (random.nextInt(6)) {
            case 0:
                boolean slip = random.nextInt(3) == 0;
                due("see " + s, x.see(s, slip), !known(s) ? Check.UNKNOWN : seen.size() == 6 ? Check.FULL : seen.size() + 1);
                if (known(s) && seen.size() < 6) {
                    seen.add(new int[] {s, slip ? 1 : 0});
                }
                break;
            case 1: case 2:
                tryRang();
                break;
            case 3:
                int is = random.nextInt(3) > 0 && known(s) ? now.is[s] : odd(6);
                boolean bounds = is >= 1 && is <= 4;
                due("write " + s + " " + is, x.write(s, is),
                    !known(s) ? Check.UNKNOWN : !bounds ? Check.OUTSIDE : book.size() == 20 ? Check.FULL : book.size() + 1);
                if (known(s) && bounds && book.size() < 20) {
                    book.add(new int[] {s, is});
                }
                break;
            case 4:
                int wrong = -1;
                for (int i = book.size() - 1; i >= 0; i--) {
                    wrong = now.is[book.get(i)[0]] != book.get(i)[1] ? i : wrong;
                }
                due("judge", x.judge(), wrong);
                break;
            default:
                if (random.nextInt(4) == 0) {
                    due("tear", x.tear(), seen.size() + book.size());
                    seen.clear();
                    book.clear();
                }
                break;
        }
    }

    private void tryRang() {
        int way = randomWay();
        int what = odd(2);
        if (!isWay(way) || what < 0 || what > 1) {
            due("rang " + way + " " + what, x.rang(way, what), isWay(way) ? Check.OUTSIDE : Check.UNKNOWN);
            return;
        }
        List<List<Integer>> fitting = new ArrayList<>();
        int set = 0;
        for (int h = 0; h < 4; h++) {
            List<Integer> slips = tryOut(new Mark(), way, h).slips;
            if (seen.stream().allMatch(e -> slips.contains(e[0]) == (e[1] == 1))) {
                fitting.add(slips);
                set += 1 << h;
            }
        }
        int ask = -1;
        int least = fitting.size();
        for (int s = 0; s < stops.size(); s++) {
            int stop = s;
            int with = (int) fitting.stream().filter(slips -> slips.contains(stop)).count();
            int part = Math.max(with, fitting.size() - with);
            ask = part < least ? s : ask;
            least = Math.min(least, part);
        }
        due("rang " + way + " " + what, x.rang(way, what), what == 0 ? set : ask);
    }
}
