/** The bounds that part 2 of the Terms names, and promises 8 to 13: each sentence at its bound and on both sides of it. */
public final class RoundBoundsTest {
    private static final int ALL_HOURS = 4095;
    /** Stop 0 hears, 1 never hears and has a neighbour, 2 is never in and has one, 3 is in in HOUR 0. */
    private static final String LIFE = "v10 2 3;s5 4095 5;s15 4095 0;s25 0 9;s35 1 9;n1 0 1;n2 0 2;";
    private static final String SEVEN = "v7 1 5;" + "s0 4095 9;".repeat(7);

    public static void main(String[] args) {
        hoursOfTheDay();
        theRingIsBehindTheHour();
        dinBelowBell();
        hastes();
        hastesFromPlaceToPlace();
        waysOfHowManyStops();
        wayFromItsFirstFigure();
        secondsOfARound();
        fewerThanC();
        neighbourIsIn();
        whoCounts();
        deedsByWhatItIs();
        thankedForOne();
        boundsOfRound();
        boundsOfDrift();
        draws();
        howManyAreUndone();
        theThirtyLatest();
        undoneDrifts();
        sinceTheTextOrImage();
        roundsAreFull();
        driftIsFull();
        fullChangesNothing();
        Check.end();
    }

    // ---- hours

    /** The street's beginning: he comes to yard x at this second, past stops where nobody is in. */
    private record Start(String text, int stops, int yard) {
    }

    private static Start arriving(int second) {
        for (int ahead = 0; ahead <= 5; ahead++) {
            int last = ahead % 2 == 0 ? 0 : 99;
            for (int d = 0; d <= 99; d++) {
                for (int x = 0; x <= 99; x++) {
                    int left = second - d * (99 * ahead + Math.abs(x - last));
                    int each = ahead == 0 ? 2 : left / ahead;
                    if (left == each * ahead && each >= 2 && each <= 120 || ahead == 0 && left == 0) {
                        int r = Math.min(90, each - 1);
                        return new Start("v" + r + " " + d + " " + (each - r) + ";" + "s99 0 0;s0 0 0;s99 0 0;s0 0 0;s99 0 0;".substring(0,
                            ahead / 2 * 15 + ahead % 2 * 8), ahead, x);
                    }
                }
            }
        }
        Check.due("a street for second " + second, "none", "one");
        return new Start("v1 0 1;", 0, 0);
    }

    /** What the stop becomes, to which he comes at the second that the start tells. */
    private static int becomes(Start start, int in, int bell, int neighbourIn, String din) {
        int s = start.stops();
        String text = start.text() + "s" + start.yard() + " " + in + " " + bell + ";s0 " + neighbourIn + " 9;" + din + "n" + s + " " + (s + 1) + " 1;";
        WeWereIn x = Check.street(text);
        x.round(Integer.parseInt("1234567".substring(0, s + 1)), 0);
        return x.stop(s, 3);
    }

    private static void hoursOfTheDay() {
        for (int hour = 0; hour <= 12; hour++) {
            for (int second = 3600 * hour - 1; second <= 3600 * hour + 1; second++) {
                if (second >= 0) {
                    oneSecond(second);
                }
            }
        }
        oneSecond(46800);
        oneSecond(57600);
    }

    private static void oneSecond(int second) {
        Start start = arriving(second);
        String at = "at second " + second + ": ";
        Check.says("to each as many SECONDS as yards times D");
        WeWereIn x = Check.street(start.text() + "s" + start.yard() + " 0 0;");
        int way = Integer.parseInt("1234567".substring(0, start.stops() + 1));
        Check.due(at + "comes", x.comes(start.stops(), way, 0), second);
        int hour = second / 3600;
        if (hour >= 12) {
            Check.says("in HOUR 12 and on nobody is IN");
            Check.due(at + "always in", becomes(start, ALL_HOURS, 9, 0, ""), 4);
            Check.due(at + "the neighbour always in", becomes(start, 0, 9, ALL_HOURS, ""), 4);
            return;
        }
        Check.says("A DAY has 12 HOURS of 3600 SECONDS", "HOUR is that of the SECOND at which he is there (/ 3600");
        int only = 1 << hour;
        Check.due(at + "in in this hour alone", becomes(start, only, 9, 0, ""), 2);
        Check.due(at + "in in all others", becomes(start, ALL_HOURS - only, 9, 0, ""), 4);
        Check.due(at + "the neighbour in this hour alone", becomes(start, 0, 9, only, ""), 3);
        Check.due(at + "the neighbour in all others", becomes(start, 0, 9, ALL_HOURS - only, ""), 4);
        StringBuilder loud = new StringBuilder("d");
        StringBuilder quiet = new StringBuilder("d");
        for (int h = 0; h < 12; h++) {
            loud.append(h == 0 ? "" : ",").append(h == hour ? 9 : 0);
            quiet.append(h == 0 ? "" : ",").append(h == hour ? 0 : 9);
        }
        Check.due(at + "loud in this hour alone", becomes(start, ALL_HOURS, 9, 0, loud + ";"), 4);
        Check.due(at + "loud in all others", becomes(start, ALL_HOURS, 9, 0, quiet + ";"), 2);
        Check.due(at + "loud, left with the neighbour", becomes(start, ALL_HOURS, 9, ALL_HOURS, loud + ";"), 3);
    }

    private static void theRingIsBehindTheHour() {
        Check.says("HOUR is that of the SECOND at which he is there");
        // 59 times 61 is 3599: the ring lasts into HOUR 1, and it is HOUR 0 that counts
        WeWereIn x = Check.street("v90 59 30;s61 1 9;s0 0 0;s61 2 9;");
        Check.due("home", x.round(1, 0), 2 * 3599 + 90);
        Check.due("handed in HOUR 0", x.stop(0, 3), 2);
        x = Check.street("v90 59 30;s61 2 9;s0 1 0;n0 1 1;");
        x.round(1, 0);
        Check.due("the neighbour's HOUR too", x.stop(0, 3), 3);
        x = Check.street("v1 59 1;s61 0 0;s61 1 9;s61 2 9;");
        x.round(123, 0);
        Check.due("the next is met in HOUR 1", x.told(11), 3);
        Check.due("the next is met in HOUR 1: handed", x.told(9), 4);
    }

    private static void dinBelowBell() {
        Check.says("one HEARS him, if he is IN in that HOUR, and its DIN is below BELL: HANDED");
        for (int bell = 0; bell <= 9; bell++) {
            for (int din = 0; din <= 9; din++) {
                WeWereIn x = Check.street("v1 0 1;s0 1 " + bell + ";d" + din + ";");
                x.round(1, 0);
                Check.due("din " + din + ", bell " + bell, x.stop(0, 3), din < bell ? 2 : 4);
            }
        }
        for (int bell = 0; bell <= 1; bell++) {
            WeWereIn x = Check.street("v1 0 1;s0 1 " + bell + ";");
            x.round(1, 0);
            Check.due("din untold, bell " + bell, x.stop(0, 3), bell == 0 ? 4 : 2);
        }
    }

    // ---- haste and way

    private static void hastes() {
        Check.says("he does not RING, if h is above 0 and k is left over 0 by 5 less h");
        // bit k - 1 for the k-th: at haste 0 he rings at the fifth too
        int[] notRung = {0, 1 << 3, 1 << 2 | 1 << 5, 1 << 1 | 1 << 3 | 1 << 5};
        for (int h = 0; h <= 3; h++) {
            WeWereIn x = Check.street(SEVEN);
            int slips = Integer.bitCount(notRung[h]);
            Check.due("seconds at haste " + h, x.round(1234567, h), 7 * (7 - slips) + 5 * slips);
            Check.due("not rung at haste " + h, x.told(11), notRung[h]);
            Check.due("handed at haste " + h, x.told(9), 127 - notRung[h]);
            Check.due("slips at haste " + h, x.told(7), slips);
            WeWereIn y = Check.street(SEVEN);
            y.round(7654321, h);
            Check.due("not rung at haste " + h + ", the other way", y.told(11), Integer.reverse(notRung[h]) >>> 25);
        }
    }

    private static void hastesFromPlaceToPlace() {
        Check.says("on the k-th of the STOPS that he comes to (1 on)");
        for (int passed = 0; passed <= 3; passed++) {
            WeWereIn x = Check.street(SEVEN);
            if (passed > 0) {
                x.round(Integer.parseInt("123".substring(0, passed)), 0);
            }
            x.round(1234567, 1);
            Check.due("the fourth of those that count, " + passed + " passed by", x.told(11), 1 << 3 + passed);
        }
        Check.says("others in the WAY are passed by (no k, no SECONDS but for yards to it)");
        WeWereIn x = Check.street("v7 10 5;s1 4095 9;s2 4095 9;s9 4095 9;");
        x.round(3, 0);
        Check.due("by yard 9", x.round(132, 3), (1 + 8 + 7 + 2) * 10 + 7 + 5);
        Check.due("the second that counts gets a slip", x.told(11), 2);
        Check.due("nobody counts: yards alone", x.round(13, 3), 180);
    }

    private static boolean isWay(int way, int stops) {
        String figures = Integer.toString(way);
        for (char c : figures.toCharArray()) {
            if (c < '1' || c > '0' + stops || figures.indexOf(c) != figures.lastIndexOf(c)) {
                return false;
            }
        }
        return true;
    }

    private static void waysOfHowManyStops() {
        Check.says("UNKNOWN (a WAY with other figures, one twice, none at all)");
        int[] odd = {1234567, 7654321, 12345678, 123456789, 1234568, 12345670, 1023456, 11234567, 12345671, 1234566, 2147483647,
            -2147483648, -1234567, -1, 1000000000, 1111111111, 70, 77, 707, 8, 9, 80, 123, 321, 213, 1203, 3210};
        for (int stops = 0; stops <= 7; stops++) {
            String text = "v1 0 1;" + "s0 0 0;".repeat(stops);
            WeWereIn x = Check.street(text);
            for (int way = -12; way <= 130; way++) {
                oneWay(x, way, stops);
            }
            WeWereIn y = Check.street(text);
            for (int way : odd) {
                oneWay(y, way, stops);
            }
        }
    }

    private static void oneWay(WeWereIn x, int way, int stops) {
        boolean is = isWay(way, stops);
        int back = 2 * Integer.toString(way).length();
        Check.due("home by " + way + " of " + stops, x.home(way, 0), is ? back : Check.UNKNOWN);
        Check.due("round by " + way + " of " + stops, x.round(way, 0), is ? back : Check.UNKNOWN);
    }

    private static void wayFromItsFirstFigure() {
        Check.says("their numbers as figures from the first on, each 1 more than the STOP");
        WeWereIn x = Check.street("v1 1 1;s10 0 0;s20 0 0;s30 0 0;s40 0 0;s50 0 0;s60 0 0;s70 0 0;");
        int[] there = {10, 22, 34, 46, 58, 70, 82};
        for (int s = 0; s < 7; s++) {
            Check.due("comes to " + s, x.comes(s, 1234567, 0), there[s]);
            Check.due("comes to " + s + " backwards", x.comes(s, 7654321, 0), 70 + 12 * (6 - s));
            Check.due("comes to " + s + " alone", x.comes(s, s + 1, 0), 10 * (s + 1));
        }
        Check.says("From the last back to the depot");
        Check.due("from stop 6", x.home(1234567, 0), 84 + 70);
        Check.due("from stop 0", x.home(7654321, 0), 144 + 10);
    }

    private static void secondsOfARound() {
        Check.says("There he RINGS (R SECONDS), if he does", "LEFT with him (Q SECONDS; one more taken in)", "a SLIP (Q SECONDS): DEPOT");
        // haste 3: the second of the way is not rung at
        String[] texts = {"v90 0 30;s0 0 0;s0 1 9;", "v90 0 30;s0 0 0;s0 1 0;", "v90 0 30;s0 0 0;s0 1 0;s0 1 0;n1 2 1;"};
        int[] rung = {90 + 30 + 90, 90 + 30 + 90 + 30, 90 + 30 + 90 + 30};
        int[] is = {2, 4, 3};
        int[] silent = {4, 4, 3};
        for (int i = 0; i < 3; i++) {
            WeWereIn x = Check.street(texts[i]);
            Check.due("rung", x.round(12, 0), rung[i]);
            Check.due("rung: is", x.stop(1, 3), is[i]);
            WeWereIn y = Check.street(texts[i]);
            Check.due("not rung", y.round(12, 3), 90 + 30 + 30);
            Check.due("not rung: is", y.stop(1, 3), silent[i]);
        }
        Check.due("the least of all", Check.street("v1 0 1;s0 1 9;").round(1, 0), 1);
        Check.due("the longest", Check.street("v90 99 30;" + "s99 0 0;s0 0 0;".repeat(3) + "s99 0 0;").round(1234567, 0), 8 * 9801 + 7 * 120);
    }

    // ---- neighbours

    private static void fewerThanC() {
        Check.says("if the neighbour of that STOP is IN in that HOUR and took in fewer than C for it: LEFT");
        for (int c = 1; c <= 9; c++) {
            WeWereIn x = Check.street("v1 0 1;s0 0 0;s0 1 0;n0 1 " + c + ";");
            for (int taken = 0; taken < c; taken++) {
                Check.due("took of " + c, x.stop(0, 6), taken);
                Check.due("bears", x.bears(0), c - taken);
                x.round(1, 0);
                Check.due("left, " + taken + " of " + c + " taken", x.stop(0, 3), 3);
                x.fetch(0);
                x.order(0);
            }
            Check.due("took all of " + c, x.stop(0, 6), c);
            Check.due("bears no more", x.bears(0), 0);
            x.round(1, 0);
            Check.due("tired of " + c, x.stop(0, 3), 4);
            Check.due("took still", x.stop(0, 6), c);
            Check.due("a slip", x.told(7), 1);
            x.round(1, 0);
            Check.due("tired again", x.stop(0, 3), 4);
            Check.says("THANKED: a neighbour has taken in none since");
            Check.due("thanked of " + c, x.thank(0), c);
            Check.due("none since", x.stop(0, 6), 0);
            Check.due("bears all", x.bears(0), c);
            x.round(1, 0);
            Check.due("left again", x.stop(0, 3), 3);
            Check.due("one since", x.stop(0, 6), 1);
            Check.says("if the neighbour of that STOP is IN in that HOUR and took in fewer than C for it: LEFT");
        }
    }

    private static void neighbourIsIn() {
        Check.says("STOP T takes in for STOP S, unlike, both told ahead, if he is IN");
        // the neighbour hears no bell and gets a slip himself, but he is in
        WeWereIn x = Check.street("v1 0 1;s0 0 0;s0 1 0;d9;n0 1 1;");
        x.round(12, 0);
        Check.due("left with one who does not hear", x.stop(0, 3), 3);
        Check.due("who gets a slip himself", x.stop(1, 3), 4);
        x = Check.street("v1 0 1;s0 0 0;s0 4094 9;n0 1 1;");
        x.round(1, 0);
        Check.due("the neighbour is out", x.stop(0, 3), 4);
        Check.due("the neighbour is out: took none", x.stop(0, 6), 0);
        x = Check.street("v1 0 1;s0 1 9;s0 1 9;n0 1 1;n1 0 1;");
        x.round(12, 0);
        Check.due("who hears is handed it", x.told(9), 3);
        Check.due("none taken in", x.stop(0, 6) + x.stop(1, 6), 0);
        Check.says("took in fewer than C for it");
        x = Check.street("v1 0 1;s0 0 0;s0 0 0;s0 1 0;n0 2 1;n1 2 1;");
        x.round(12, 0);
        Check.due("one for each of two", x.told(10), 3);
        Check.due("taken for 0", x.stop(0, 6), 1);
        Check.due("taken for 1", x.stop(1, 6), 1);
    }

    private static void whoCounts() {
        Check.says("On a ROUND only STOPS that WAIT, or whose parcel lies at the DEPOT, count");
        WeWereIn x = Check.street(LIFE);
        Check.due("all do at first", x.told(8), 15);
        x.round(1234, 1);
        x.order(0);
        x.fetch(2);
        Check.due("waits, left, handed, depot", Check.state(x), "1/0 3/1 2/1 4/0 1 179 1");
        Check.due("outcome", x.outcome(4321, 0), 2322);
        x.round(4321, 0);
        Check.due("round", Check.state(x), "2/0 3/1 2/1 2/0 2 339 1");
        x.round(4321, 0);
        Check.due("nobody counts", Check.state(x), "2/0 3/1 2/1 2/0 3 479 1");
    }

    // ---- deeds

    /** Stop 0 waits, 1 is left, 2 was handed, 3 lies at the depot. */
    private static WeWereIn lived() {
        WeWereIn x = Check.street(LIFE);
        x.round(1234, 1);
        x.order(0);
        x.fetch(2);
        return x;
    }

    private static void deedsByWhatItIs() {
        int[] fetched = {Check.NOT, 1, Check.NOT, 0};
        int[] ordered = {Check.NOT, Check.NOT, 1, Check.NOT};
        int[] thanked = {Check.NOT, 1, 1, Check.NOT};
        int[] then = {1, 2, 2, 2};
        for (int s = 0; s < 4; s++) {
            Check.says("FETCHED: 1 from the neighbour, 0 from the DEPOT. UNKNOWN, NOT: it lies at neither");
            WeWereIn x = lived();
            Check.due("fetch " + s, x.fetch(s), fetched[s]);
            Check.due("fetch " + s + ": is", x.stop(s, 3), then[s]);
            Check.due("fetch " + s + ": a deed", x.told(14), fetched[s] < 0 ? 3 : 4);
            Check.due("fetch " + s + ": took", x.stop(s, 6), s == 1 || s == 2 ? 1 : 0);
            Check.says("ORDERED: 1. UNKNOWN, NOT: it was not HANDED");
            WeWereIn y = lived();
            Check.due("order " + s, y.order(s), ordered[s]);
            Check.due("order " + s + ": is", y.stop(s, 3), s == 2 ? 1 : lived().stop(s, 3));
            Check.due("order " + s + ": a deed", y.told(14), ordered[s] < 0 ? 3 : 4);
            Check.says("THANKED: how many he had taken in for it. UNKNOWN, NOT: it has no neighbour");
            WeWereIn z = lived();
            Check.due("thank " + s, z.thank(s), thanked[s]);
            Check.due("thank " + s + ": took", z.stop(s, 6), 0);
            Check.due("thank " + s + ": is", z.stop(s, 3), lived().stop(s, 3));
            Check.due("thank " + s + ": a deed", z.told(14), thanked[s] < 0 ? 3 : 4);
        }
        Check.says("UNKNOWN");
        WeWereIn x = lived();
        for (int s : new int[] {-1, 4, 5, 7, Integer.MIN_VALUE, Integer.MAX_VALUE}) {
            Check.due("fetch " + s, x.fetch(s), Check.UNKNOWN);
            Check.due("order " + s, x.order(s), Check.UNKNOWN);
            Check.due("thank " + s, x.thank(s), Check.UNKNOWN);
        }
        Check.due("no deeds", x.told(14), 3);
    }

    private static void thankedForOne() {
        Check.says("THANKED: how many he had taken in for it");
        WeWereIn x = Check.street("v1 0 1;s0 0 0;s0 0 0;s0 1 0;n0 2 9;n1 2 9;");
        x.round(12, 0);
        Check.due("for 0", x.thank(0), 1);
        Check.due("for 0 again", x.thank(0), 0);
        Check.due("for 0 again: a deed all the same", x.told(14), 3);
        Check.due("for 1 still", x.stop(1, 6), 1);
        Check.due("for 1", x.thank(1), 1);
        Check.due("the parcels stay there", x.told(10), 3);
        Check.due("the neighbour has none himself", x.thank(2), Check.NOT);
    }

    private static void boundsOfRound() {
        Check.says("HASTE h (0 .. 3)");
        WeWereIn x = Check.street(LIFE);
        for (int h = -3; h <= 7; h++) {
            boolean bounds = h >= 0 && h <= 3;
            Check.due("round at haste " + h, x.round(1, h) == Check.OUTSIDE, !bounds);
            Check.due("home at haste " + h, x.home(1, h) == Check.OUTSIDE, !bounds);
        }
        Check.due("four were driven", x.told(5), 4);
        for (int far : Check.FAR) {
            Check.due("round at haste " + far, x.round(1, far), Check.OUTSIDE);
        }
        Check.due("four still", x.told(5), 4);
    }

    private static void boundsOfDrift() {
        Check.says("n ROUNDS BY DRAWS (1 .. 20): SECONDS of all. OUTSIDE, NOT: no STOPS");
        int rounds = 0;
        WeWereIn x = Check.street(LIFE);
        for (int n = -2; n <= 23; n++) {
            int answer = x.drift(n);
            rounds += n >= 1 && n <= 20 ? n : 0;
            Check.due("rounds behind drift " + n, x.told(5), rounds);
            Check.due("drift " + n, answer, n >= 1 && n <= 20 ? x.told(6) : Check.OUTSIDE);
        }
        for (int far : Check.FAR) {
            Check.due("drift " + far, x.drift(far), Check.OUTSIDE);
        }
        for (String text : new String[] {"", "v1 0 1;", "v1 0 1;d1;"}) {
            WeWereIn y = Check.street(text);
            y.seed(8);
            Check.due("no stops", y.drift(1), Check.NOT);
            Check.due("no stops, twenty", y.drift(20), Check.NOT);
            Check.due("no stops: no draw", y.seed(0), 8);
            Check.due("no stops: rounds", y.told(5), 0);
        }
        WeWereIn one = Check.street("v1 0 1;s0 0 0;");
        Check.due("one stop", one.drift(1), 2);
    }

    private static void draws() {
        Check.says("it becomes it times 1103515245 and 12345, left over by 2 to the 31; the DRAW of n is it / 65536, left over by n",
            "if it was HANDED, it is ORDERED; a DRAW of 4 is HASTE; the WAY is all STOPS, rising");
        String[] each = {"s1 1 9;", "s2 0 9;", "s3 1 4;", "s4 1 0;", "s5 4095 9;", "s6 1 9;", "s7 1 9;"};
        StringBuilder text = new StringBuilder("v3 1 2;");
        int[] seeds = {0, 1, 65535, 65536, 1073741823, 1073741824, 2147483646, Integer.MAX_VALUE};
        for (int stops = 1; stops <= 7; stops++) {
            text.append(each[stops - 1]);
            for (int seed : seeds) {
                drawn(text.toString(), stops, seed);
                if (stops > 3) {
                    // who is left with a neighbour was not handed it: a draw of him orders nothing
                    drawn(text + "n1 0 9;n3 0 2;", stops, seed);
                }
            }
        }
    }

    private static void drawn(String text, int stops, int seed) {
        WeWereIn x = Check.street(text);
        WeWereIn y = Check.street(text);
        Check.due("stops", x.told(3), stops);
        x.seed(seed);
        long dice = seed;
        int way = Integer.parseInt("1234567".substring(0, stops));
        for (int i = 0; i < 9; i++) {
            dice = (dice * 1103515245L + 12345L) % 2147483648L;
            y.order((int) (dice / 65536 % stops));
            dice = (dice * 1103515245L + 12345L) % 2147483648L;
            y.round(way, (int) (dice / 65536 % 4));
            Check.due("drift from " + seed, x.drift(1), y.told(6));
            Check.due("drift from " + seed + ": state", Check.state(x), Check.state(y));
        }
        Check.due("the seed then", x.seed(0), (int) dice);
    }

    // ---- undone

    private static void howManyAreUndone() {
        Check.says("The n latest (1 .. 30) are undone: ROUNDS. OUTSIDE, NOT: not so many");
        for (int deeds = 0; deeds <= 32; deeds++) {
            for (int n = deeds - 1; n <= deeds + 1; n++) {
                WeWereIn x = Check.street(LIFE);
                for (int i = 0; i < deeds; i++) {
                    x.round(4, 0);
                }
                int kept = Math.min(deeds, 30);
                Check.due(deeds + " deeds", x.told(14), kept);
                int due = n < 1 || n > 30 ? Check.OUTSIDE : n > kept ? Check.NOT : deeds - n;
                Check.due("undo " + n + " of " + deeds, x.undo(n), due);
                Check.due("undo " + n + " of " + deeds + ": left", x.told(14), due < 0 ? kept : kept - n);
                Check.due("undo " + n + " of " + deeds + ": rounds", x.told(5), due < 0 ? deeds : deeds - n);
            }
        }
        WeWereIn x = Check.street(LIFE);
        for (int far : Check.FAR) {
            Check.due("undo " + far, x.undo(far), Check.OUTSIDE);
        }
        Check.due("undo 0", x.undo(0), Check.OUTSIDE);
        Check.due("undo 31", x.undo(31), Check.OUTSIDE);
    }

    /** A life of so many deeds, of all kinds: each call is one. */
    private static WeWereIn deeds(int many) {
        WeWereIn x = Check.street(LIFE);
        for (int i = 0; i < many; i++) {
            switch (i % 5) {
                case 0: x.round(2341, i % 4); break;
                case 1: x.fetch(1); break;
                case 2: x.order(1); break;
                case 3: x.thank(1); break;
                default: x.drift(1); break;
            }
        }
        return x;
    }

    private static void theThirtyLatest() {
        Check.says("the latest deeds (round(), fetch(), order(), thank(), each ROUND BY DRAWS) since the text or IMAGE (30 at most are kept)");
        for (int many = 0; many <= 37; many++) {
            int kept = Math.min(many, 30);
            Check.due(many + " deeds", deeds(many).told(14), kept);
            for (int n = 1; n <= kept; n++) {
                WeWereIn x = deeds(many);
                WeWereIn then = deeds(many - n);
                int dice = deeds(many).seed(0);
                Check.due("undo " + n + " of " + many, x.undo(n), then.told(5));
                Check.due("undo " + n + " of " + many + ": state", Check.state(x), Check.state(then));
                Check.due("undo " + n + " of " + many + ": THE SEED stays", x.seed(0), dice);
                Check.due("undo " + n + " of " + many + ": the rest", x.told(14), kept - n);
            }
            WeWereIn x = deeds(many);
            for (int n = 0; n < kept; n++) {
                x.undo(1);
            }
            Check.due("undone one by one", Check.state(x), Check.state(deeds(many - kept)));
            Check.due("no more", x.undo(1), Check.NOT);
        }
    }

    private static void undoneDrifts() {
        Check.says("each ROUND BY DRAWS");
        for (int n = 1; n <= 20; n++) {
            WeWereIn x = Check.street(LIFE);
            x.drift(n);
            Check.due("deeds of drift " + n, x.told(14), n);
            WeWereIn then = Check.street(LIFE);
            for (int i = 1; i < n; i++) {
                then.drift(1);
            }
            Check.due("undo one of drift " + n, x.undo(1), n - 1);
            Check.due("undo one of drift " + n + ": state", Check.state(x), Check.state(then));
        }
    }

    private static void sinceTheTextOrImage() {
        Check.says("since the text or IMAGE");
        WeWereIn x = Check.street(LIFE);
        x.round(4, 0);
        x.round(3, 0);
        Check.due("keep", x.keep(0), 1);
        Check.due("nothing can be undone", x.told(14), 0);
        Check.due("undo", x.undo(1), Check.NOT);
        x.round(2, 0);
        Check.due("one since", x.undo(2), Check.NOT);
        Check.due("it can be", x.undo(1), 2);
        x.round(2, 0);
        x.goBack(0);
        Check.due("gone back", x.told(14), 0);
        Check.due("gone back: undo", x.undo(1), Check.NOT);
        x.round(2, 0);
        Check.tell(x, "v1 0 1;s0 0 0;");
        Check.due("another text", x.told(14), 0);
        Check.due("another text: undo", x.undo(1), Check.NOT);
        x.round(1, 0);
        Check.tell(x, "v");
        Check.due("a faulty text", x.undo(1), 0);
    }

    // ---- full

    /** So many rounds by draws, 20 a call; the text has 14 letters, for the calls are 512 at most. */
    private static WeWereIn driven(int rounds) {
        WeWereIn x = Check.street("v1 0 1;s0 0 0;");
        for (int left = rounds; left > 0; left -= 20) {
            x.drift(Math.min(left, 20));
        }
        Check.due("driven", x.told(5), rounds);
        return x;
    }

    private static void roundsAreFull() {
        Check.says("FULL: ROUNDS are above 9000");
        WeWereIn x = driven(8999);
        Check.due("at 8999", x.round(1, 0), 2);
        Check.due("at 9000", x.round(1, 0), 2);
        Check.due("at 9001", x.round(1, 0), Check.FULL);
        Check.due("at 9001 again", x.round(1, 3), Check.FULL);
        Check.due("at 9001: drift", x.drift(1), Check.FULL);
        Check.due("rounds", x.told(5), 9001);
        Check.due("seconds", x.told(6), 18002);
        Check.due("slips", x.told(7), 9001);
        Check.due("no bound for what is tried", x.home(1, 0), 2);
        Check.due("nor for other deeds", x.fetch(0), 0);
        Check.due("nor for undoing", x.undo(2), 9000);
        Check.due("at 9000 again", x.round(1, 0), 2);
        Check.due("at 9001 once more", x.round(1, 0), Check.FULL);
    }

    private static void driftIsFull() {
        Check.says("FULL: ROUNDS are above 9000");
        WeWereIn x = driven(8999);
        Check.due("at 8999", x.drift(1), 18000);
        Check.due("at 9000", x.drift(1), 18002);
        Check.due("at 9001", x.drift(1), Check.FULL);
        Check.due("at 9001: twenty", x.drift(20), Check.FULL);
        Check.due("at 9001: round", x.round(1, 0), Check.FULL);
        Check.due("rounds", x.told(5), 9001);
        x.undo(1);
        Check.due("twenty at 9000", x.drift(20), 18040);
        Check.due("rounds then", x.told(5), 9020);
        Check.due("at 9020", x.drift(1), Check.FULL);
        Check.due("thirty can be undone", x.undo(30), 8990);
        Check.due("twenty at 8990", x.drift(20), 18020);
        Check.due("at 9010", x.drift(1), Check.FULL);
    }

    private static void fullChangesNothing() {
        Check.says("What is refused changes nothing");
        WeWereIn x = driven(9001);
        WeWereIn twin = driven(9001);
        Check.due("round", x.round(1, 0), Check.FULL);
        Check.due("drift", x.drift(3), Check.FULL);
        Check.due("outside ahead of full: round", x.round(1, 4), Check.OUTSIDE);
        Check.due("unknown ahead of full: round", x.round(2, 0), Check.UNKNOWN);
        Check.due("outside ahead of full: drift", x.drift(21), Check.OUTSIDE);
        Check.due("state", Check.state(x), Check.state(twin));
        Check.due("can be undone", x.told(14), 30);
        Check.due("seed", x.seed(5), twin.seed(5));
        Check.due("undone", x.undo(1), twin.undo(1));
        Check.due("undone: state", Check.state(x), Check.state(twin));
        Check.due("undone thirty", x.undo(29), twin.undo(29));
        Check.due("undone thirty: state", Check.state(x), Check.state(twin));
    }
}
