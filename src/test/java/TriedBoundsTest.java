import java.math.BigInteger;

/** The bounds that part 3 of the Terms names, and promises 14 to 22: each sentence at its bound and on both sides of it. */
public final class TriedBoundsTest {
    /** Stop 0 hears, 1 never hears and has a neighbour, 2 is never in and has one, 3 is in in HOUR 0. */
    private static final String LIFE = "v10 2 3;s5 4095 5;s15 4095 0;s25 0 9;s35 1 9;n1 0 1;n2 0 2;";
    private static final String SEVEN = "v7 1 5;" + "s0 4095 9;".repeat(7);

    public static void main(String[] args) {
        comesFromSecond0();
        comesNot();
        comesAlsoIfHePassesBy();
        comesHasBounds();
        homeHasBounds();
        outcomeOfEach();
        outcomeWithoutStops();
        bathByOneSecond();
        bathByTwoWays();
        bathHasBounds();
        bestWayWithoutAny();
        bestWayOfTheLeastNumber();
        bestWayOfMostHanded();
        bestWayHasBounds();
        pretendsAtHaste0();
        costsAroundAHundred();
        pretendsHasBounds();
        lockerFromYardToYard();
        lockerOfNone();
        lockerOfSlipsAlone();
        lockerHasBounds();
        bearsHowMany();
        heardOfAll();
        heardHasBounds();
        Check.end();
    }

    /** Stop 0 waits, 1 is left, 2 was handed, 3 lies at the depot. */
    private static WeWereIn lived() {
        WeWereIn x = Check.street(LIFE);
        x.round(1234, 1);
        x.order(0);
        x.fetch(2);
        return x;
    }

    // ---- comes, home, outcome

    private static void comesFromSecond0() {
        Check.says("SECOND at which he is there (ahead of the RING");
        WeWereIn x = Check.street("v90 99 30;s0 4095 9;s0 0 0;s1 0 0;");
        Check.due("at the depot's yard", x.comes(0, 1, 0), 0);
        Check.due("behind a ring", x.comes(1, 12, 0), 90);
        Check.due("behind a ring and a slip", x.comes(0, 21, 0), 120);
        Check.due("one yard on", x.comes(2, 3, 0), 99);
        Check.due("there and back", x.comes(0, 31, 0), 99 + 120 + 99);
        x = Check.street("v1 0 1;s99 0 0;s0 0 0;");
        Check.due("a yard takes no second", x.comes(0, 1, 0), 0);
        Check.due("a yard takes no second, then", x.comes(1, 12, 0), 2);
    }

    private static void comesNot() {
        Check.says("NONE: it is not in the WAY");
        WeWereIn x = Check.street(LIFE);
        int[] without = {234, 134, 124, 123};
        for (int s = 0; s < 4; s++) {
            for (int h = 0; h < 4; h++) {
                Check.due("comes to " + s + " by " + without[s], x.comes(s, without[s], h), Check.NONE);
                Check.due("comes to " + s + " by 1234", x.comes(s, 1234, h) > 0, true);
            }
        }
        Check.due("comes to 1 by 1", x.comes(1, 1, 0), Check.NONE);
    }

    private static void comesAlsoIfHePassesBy() {
        Check.says("also if he passes by");
        WeWereIn x = lived();
        Check.due("left", x.comes(1, 2, 0), 30);
        Check.due("handed", x.comes(2, 23, 0), 50);
        Check.due("behind them", x.comes(3, 234, 0), 70);
        Check.due("waits", x.comes(1, 12, 0), 40);
    }

    private static void comesHasBounds() {
        Check.says("COMES; NONE. UNKNOWN, OUTSIDE");
        WeWereIn x = Check.street(LIFE);
        for (int s = -2; s <= 8; s++) {
            boolean known = s >= 0 && s <= 3;
            Check.due("comes to " + s, x.comes(s, 1234, 0) == Check.UNKNOWN, !known);
            Check.due("comes to " + s + ", outside", x.comes(s, 1234, 4), known ? Check.OUTSIDE : Check.UNKNOWN);
            Check.due("comes to " + s + " by no way", x.comes(s, 0, 0), Check.UNKNOWN);
        }
        for (int h = -2; h <= 6; h++) {
            boolean bounds = h >= 0 && h <= 3;
            Check.due("comes at haste " + h, x.comes(0, 1, h), bounds ? 10 : Check.OUTSIDE);
            Check.due("comes at haste " + h + ", not in the way", x.comes(0, 2, h), bounds ? Check.NONE : Check.OUTSIDE);
            Check.due("comes at haste " + h + " by no way", x.comes(0, 5, h), Check.UNKNOWN);
        }
    }

    private static void homeHasBounds() {
        Check.says("HOME. UNKNOWN, OUTSIDE");
        WeWereIn x = Check.street(LIFE);
        for (int h = -2; h <= 6; h++) {
            boolean bounds = h >= 0 && h <= 3;
            Check.due("home at haste " + h, x.home(1, h), bounds ? 30 : Check.OUTSIDE);
            Check.due("home at haste " + h + " by no way", x.home(5, h), Check.UNKNOWN);
            Check.due("outcome at haste " + h, x.outcome(1, h), bounds ? 2111 : Check.OUTSIDE);
            Check.due("outcome at haste " + h + " by no way", x.outcome(5, h), Check.UNKNOWN);
        }
        for (int far : Check.FAR) {
            Check.due("home at haste " + far, x.home(1, far), Check.OUTSIDE);
            Check.due("outcome at haste " + far, x.outcome(1, far), Check.OUTSIDE);
            Check.due("comes at haste " + far, x.comes(0, 1, far), Check.OUTSIDE);
        }
    }

    private static void outcomeOfEach() {
        Check.says("what each STOP then is (as figures from STOP 0 on: 1 WAITS, 2 HANDED, 3 LEFT, 4 DEPOT)");
        WeWereIn x = Check.street("v1 0 1;s0 0 0;s0 1 9;s0 0 0;s0 0 0;n2 1 1;");
        Check.due("4, 2, 3, 1", x.outcome(123, 0), 4231);
        Check.due("nothing changes by it", x.told(8), 15);
        Check.due("1, 1, 1, 4", x.outcome(4, 0), 1114);
        x.round(123, 0);
        Check.due("of what it is now", x.outcome(4, 0), 4234);
        Check.due("one stop", Check.street("v1 0 1;s0 0 0;").outcome(1, 0), 4);
        x = Check.street(SEVEN);
        Check.due("seven", x.outcome(1234567, 0), 2222222);
        Check.due("the first alone", x.outcome(1, 0), 2111111);
        Check.due("the last alone", x.outcome(7, 0), 1111112);
        Check.due("seven in haste", x.outcome(1234567, 3), 2424242);
    }

    /** Every WAY is a row of STOPS that there are not then, and what is refused comes ahead of what is answered. */
    private static void outcomeWithoutStops() {
        Check.says("UNKNOWN (a STOP, a row of STOPS, IMAGE that there is not");
        for (String text : new String[] {"", "v1 0 1;"}) {
            WeWereIn x = Check.street(text);
            for (int way : new int[] {-1, 0, 1, 7, 12}) {
                Check.due("home by " + way + " without stops", x.home(way, 0), Check.UNKNOWN);
                Check.due("outcome by " + way + " without stops", x.outcome(way, 0), Check.UNKNOWN);
                Check.due("pretends by " + way + " without stops", x.pretends(way, 0, 0), Check.UNKNOWN);
                Check.due("locker by " + way + " without stops", x.locker(way, 0, 0), Check.UNKNOWN);
                Check.due("rang by " + way + " without stops", x.rang(way, 0), Check.UNKNOWN);
                Check.due("comes by " + way + " without stops", x.comes(0, way, 0), Check.UNKNOWN);
                Check.due("bath by " + way + " without stops", x.bath(0, way, way, 1), Check.UNKNOWN);
            }
        }
    }

    // ---- bath

    private static void bathByOneSecond() {
        Check.says("he is there at a SECOND from 60 t on, ahead of 60 times (t and m)");
        for (int d : new int[] {0, 1, 2, 59, 60, 61, 99}) {
            for (int first = 0; first <= 99; first += 7) {
                StringBuilder text = new StringBuilder("v1 " + d + " 1;");
                for (int x = first; x < first + 7 && x <= 99; x++) {
                    text.append('s').append(x).append(" 0 0;");
                }
                WeWereIn x = Check.street(text.toString());
                for (int s = 0; s < 7 && first + s <= 99; s++) {
                    int there = d * (first + s);
                    for (int m : new int[] {1, 2, 3, 59, 60, 61, 98, 99}) {
                        int due = there < 60 * m ? there / 60 + 1 : 0;
                        Check.due("there at " + there + ", " + m + " minutes", x.bath(s, s + 1, s + 1, m), due);
                    }
                }
            }
        }
    }

    private static void bathByTwoWays() {
        Check.says("the first minute t of the DAY (0 to 719 less m) so that by neither of two WAYS told (a, b), at HASTE 0, he is there");
        for (int d : new int[] {1, 20, 59, 60, 61}) {
            for (int yard = 0; yard <= 99; yard += 9) {
                WeWereIn x = Check.street("v60 " + d + " 30;s" + yard + " 0 0;s99 4095 9;s0 4095 9;s50 0 0;s60 0 0;");
                for (int b : new int[] {21, 31, 45231, 2}) {
                    for (int m : new int[] {1, 2, 30, 98, 99}) {
                        int due = firstFree(x.comes(0, 1, 0), x.comes(0, b, 0), m);
                        Check.due("by 1 and " + b + ", " + m + " minutes", x.bath(0, 1, b, m), due);
                        Check.due("by " + b + " and 1, " + m + " minutes", x.bath(0, b, 1, m), due);
                    }
                }
            }
        }
        WeWereIn x = Check.street("v60 60 1;s0 4095 9;s1 4095 9;s99 4095 9;");
        Check.due("between two", x.bath(0, 1, 31, 99), 1);
        Check.due("in neither way", x.bath(0, 2, 3, 99), 0);
        Check.says("at HASTE 0");
        WeWereIn y = Check.street("v60 0 1;" + "s0 4095 9;".repeat(5));
        Check.due("he rings at the fourth too", y.bath(4, 12345, 1, 4), 0);
        Check.due("he rings at the fourth too, five minutes", y.bath(4, 12345, 1, 5), 5);
        Check.due("he rings at the fourth too, by b", y.bath(4, 1, 12345, 4), 0);
    }

    private static int firstFree(int a, int b, int m) {
        for (int t = 0; t <= 719 - m; t++) {
            boolean byA = a >= 60 * t && a < 60 * (t + m);
            boolean byB = b >= 60 * t && b < 60 * (t + m);
            if (!byA && !byB) {
                return t;
            }
        }
        return Check.NONE;
    }

    private static void bathHasBounds() {
        Check.says("BATH of m minutes (1 .. 99)", "BATH; NONE. UNKNOWN, OUTSIDE");
        WeWereIn x = Check.street(LIFE);
        for (int m : new int[] {-1, 0, 1, 2, 98, 99, 100, 101, 719, 720, Integer.MIN_VALUE, Integer.MAX_VALUE}) {
            boolean bounds = m >= 1 && m <= 99;
            Check.due("bath of " + m, x.bath(0, 2, 3, m), bounds ? 0 : Check.OUTSIDE);
            Check.due("bath of " + m + ", no stop", x.bath(4, 2, 3, m), Check.UNKNOWN);
            Check.due("bath of " + m + ", a is no way", x.bath(0, 5, 3, m), Check.UNKNOWN);
            Check.due("bath of " + m + ", b is no way", x.bath(0, 2, 33, m), Check.UNKNOWN);
        }
        for (int s = -2; s <= 8; s++) {
            Check.due("bath at " + s, x.bath(s, 1, 1, 1) == Check.UNKNOWN, s < 0 || s > 3);
        }
        for (int way : new int[] {-1, 0, 5, 10, 11, 15, 12345, Integer.MIN_VALUE, Integer.MAX_VALUE}) {
            Check.due("bath by a " + way, x.bath(0, way, 1, 1), Check.UNKNOWN);
            Check.due("bath by b " + way, x.bath(0, 1, way, 1), Check.UNKNOWN);
        }
    }

    // ---- best way

    private static void best(String what, WeWereIn x, int h, int way, int handed, int home) {
        Check.due(what + " at haste " + h + ": way", x.bestWay(h, 0), way);
        Check.due(what + " at haste " + h + ": handed", x.bestWay(h, 1), handed);
        Check.due(what + " at haste " + h + ": home", x.bestWay(h, 2), home);
    }

    private static void bestWayWithoutAny() {
        Check.says("NONE: no STOP counts");
        WeWereIn two = Check.street("v1 0 1;s0 1 9;s0 0 0;n1 0 1;");
        two.round(12, 0);
        for (int h = 0; h <= 3; h++) {
            best("no street", new WeWereIn(), h, Check.NONE, Check.NONE, Check.NONE);
            best("no stops", Check.street("v1 0 1;"), h, Check.NONE, Check.NONE, Check.NONE);
            best("handed and left", two, h, Check.NONE, Check.NONE, Check.NONE);
            best("one that counts", Check.street("v1 0 1;s0 0 0;"), h, 1, 0, 2);
        }
        two.order(0);
        best("one that waits", two, 0, 1, 1, 1);
        two.round(1, 0);
        two.fetch(1);
        two.order(1);
        two.round(2, 0);
        Check.due("tired", two.stop(1, 3), 4);
        best("one at the depot", two, 0, 2, 0, 2);
        Check.says("of all WAYS that have just the STOPS that count");
        best("two of four", lived(), 0, 14, 2, 160);
    }

    private static void bestWayOfTheLeastNumber() {
        Check.says("of like ones the least number");
        for (int stops = 1; stops <= 7; stops++) {
            int way = Integer.parseInt("1234567".substring(0, stops));
            best("all alike, " + stops, Check.street("v1 0 1;" + "s0 1 9;".repeat(stops)), 0, way, stops, stops);
            best("all alike, none handed, " + stops, Check.street("v1 0 1;" + "s0 0 0;".repeat(stops)), 0, way, 0, 2 * stops);
        }
        best("there or back", Check.street("v1 5 1;s30 1 9;s20 1 9;s10 1 9;"), 0, 123, 3, 303);
        best("one behind the other", Check.street("v1 5 1;s30 1 9;s99 1 9;s10 1 9;s99 1 9;"), 0, 1243, 4, 994);
    }

    private static void bestWayOfMostHanded() {
        Check.says("the one by which most are HANDED, then HOME soonest");
        // stop 0 is in in HOUR 1 alone: he comes late enough only by way of both ends of the street
        WeWereIn x = Check.street("v1 20 1;s30 2 9;s99 4095 9;s0 4095 9;");
        best("a later home", x, 0, 231, 3, 20 * 258 + 3);
        Check.due("a later home: sooner by another", x.home(123, 0), 20 * 198 + 4);
        // stop 0 is never in: best he comes to her where he does not ring
        String four = "v9 0 1;s0 0 0;s0 1 9;s0 1 9;s0 1 9;";
        best("in haste", Check.street(four), 0, 1234, 3, 37);
        best("in haste", Check.street(four), 1, 2341, 3, 28);
        best("in haste", Check.street(four), 2, 2314, 3, 28);
        best("in haste", Check.street(four), 3, 2134, 2, 20);
        for (int h = 0; h <= 3; h++) {
            best("seven", Check.street(SEVEN), h, 1234567, 7 - h, 49 - 2 * h);
        }
        best("at haste 3 the second is not rung at", Check.street("v9 1 1;s1 1 9;s2 0 0;s3 1 9;"), 3, 123, 2, 6 + 9 + 1 + 9);
        best("home soonest", Check.street("v1 1 1;s50 0 0;s10 0 0;s60 0 0;s5 0 0;"), 0, 1324, 0, 120 + 8);
    }

    private static void bestWayHasBounds() {
        Check.says("BEST WAY: what = 0 the WAY, 1 how many, 2 HOME; NONE. OUTSIDE");
        WeWereIn none = new WeWereIn();
        WeWereIn x = Check.street(LIFE);
        for (int h = -2; h <= 5; h++) {
            for (int what = -2; what <= 5; what++) {
                boolean bounds = h >= 0 && h <= 3 && what >= 0 && what <= 2;
                Check.due("best way " + h + " " + what, x.bestWay(h, what) == Check.OUTSIDE, !bounds);
                Check.due("best way of none " + h + " " + what, none.bestWay(h, what), bounds ? Check.NONE : Check.OUTSIDE);
            }
        }
        for (int far : Check.FAR) {
            Check.due("best way " + far, x.bestWay(far, 0), Check.OUTSIDE);
            Check.due("best way: what " + far, x.bestWay(0, far), Check.OUTSIDE);
        }
    }

    // ---- pretends

    private static void pretendsAtHaste0() {
        Check.says("by how many SECONDS HOME is sooner by HASTE h than by 0");
        WeWereIn x = Check.street(SEVEN);
        int[] slips = {0, 1, 2, 3};
        for (int h = 0; h <= 3; h++) {
            Check.due("sooner at haste " + h, x.pretends(1234567, h, 0), 2 * slips[h]);
        }
        Check.says("it may be below 0");
        x = Check.street("v1 0 30;" + "s0 4095 9;".repeat(7));
        for (int h = 0; h <= 3; h++) {
            Check.due("later at haste " + h, x.pretends(1234567, h, 0), -29 * slips[h]);
        }
        x = Check.street("v30 0 30;" + "s0 4095 9;".repeat(7));
        Check.due("neither", x.pretends(1234567, 3, 0), 0);
    }

    private static void costsAroundAHundred() {
        Check.says("COSTS: how many fewer are HANDED by that, and 100");
        WeWereIn x = Check.street(SEVEN);
        for (int h = 0; h <= 3; h++) {
            Check.due("costs at haste " + h, x.pretends(1234567, h, 1), 100 + h);
            Check.due("costs by one at haste " + h, x.pretends(4, h, 1), 100);
        }
        x.round(1234, 0);
        Check.due("of those that count", x.pretends(1234567, 3, 1), 101);
        // he spares rings on the way: the last are in in HOUR 0 alone, and he comes in time
        x = Check.street("v90 75 1;s44 4095 0;s44 4095 0;s44 4095 0;s44 1 9;s44 1 9;");
        Check.due("fewer than none: one", x.pretends(1234, 2, 1), 100);
        x = Check.street("v90 80 1;s42 4095 0;s42 4095 0;s42 4095 0;s42 1 9;");
        Check.due("fewer than none", x.pretends(1234, 2, 1), 99);
        Check.due("fewer than none: sooner", x.pretends(1234, 2, 0), 91);
    }

    private static void pretendsHasBounds() {
        Check.says("PRETENDS: what = 0 by how many SECONDS (it may be below 0), 1 COSTS. UNKNOWN, OUTSIDE");
        WeWereIn x = Check.street(LIFE);
        for (int h = -2; h <= 5; h++) {
            for (int what = -2; what <= 3; what++) {
                boolean bounds = h >= 0 && h <= 3 && what >= 0 && what <= 1;
                Check.due("pretends " + h + " " + what, x.pretends(1, h, what), bounds ? 100 * what : Check.OUTSIDE);
                Check.due("pretends " + h + " " + what + " by no way", x.pretends(5, h, what), Check.UNKNOWN);
            }
        }
        for (int far : Check.FAR) {
            Check.due("pretends at haste " + far, x.pretends(1, far, 0), Check.OUTSIDE);
            Check.due("pretends: what " + far, x.pretends(1, 0, far), Check.OUTSIDE);
        }
    }

    // ---- locker

    private static void locker(String what, WeWereIn x, int way, int d, int yard, int many) {
        Check.due(what + ", d " + d + ": yard", x.locker(way, d, 0), yard);
        Check.due(what + ", d " + d + ": how many", x.locker(way, d, 1), many);
    }

    private static void lockerFromYardToYard() {
        Check.says("a box at yard y (0 .. 99; who would get a SLIP fetches there instead, if his yard is d or fewer from it)");
        for (int yard = 0; yard <= 99; yard++) {
            WeWereIn x = Check.street("v1 1 1;s" + yard + " 0 0;");
            for (int d : new int[] {0, 1, 2, yard, yard + 1, 98, 99}) {
                if (d <= 99) {
                    locker("one at " + yard, x, 1, d, Math.max(0, yard - d), 1);
                }
            }
        }
        for (int apart = 1; apart <= 99; apart++) {
            WeWereIn x = Check.street("v1 1 1;s" + (99 - apart) + " 0 0;s99 0 0;");
            int d = (apart + 1) / 2;
            locker("apart by " + apart, x, 12, d, 99 - d, 2);
            locker("apart by " + apart, x, 21, d - 1, Math.max(0, 99 - apart - d + 1), 1);
            locker("apart by " + apart, x, 12, 99, 0, 2);
        }
        Check.says("the yard of most; of like ones the least");
        WeWereIn x = Check.street("v1 1 1;s10 0 0;s30 0 0;s30 0 0;s50 0 0;s50 0 0;s90 0 0;s90 0 0;");
        locker("pairs", x, 1234567, 0, 30, 2);
        locker("pairs", x, 1234567, 9, 21, 2);
        locker("pairs", x, 1234567, 10, 40, 4);
        locker("pairs", x, 1234567, 20, 30, 5);
        locker("pairs", x, 1234567, 40, 50, 7);
        locker("pairs", x, 1234567, 41, 49, 7);
        locker("pairs in part", x, 17, 10, 0, 1);
    }

    private static void lockerOfNone() {
        Check.says("how many SLIPS fewer by a WAY and HASTE 0: the yard of most; of like ones the least");
        WeWereIn x = Check.street("v1 1 1;s50 4095 9;s60 4095 9;s70 0 0;n2 0 1;");
        for (int d : new int[] {0, 1, 50, 99}) {
            locker("no slip at all", x, 123, d, 0, 0);
        }
        WeWereIn seven = Check.street(SEVEN);
        locker("at haste 0 he rings at all seven", seven, 1234567, 99, 0, 0);
        x.round(123, 3);
        Check.due("at the depot by haste", x.stop(1, 3), 4);
        locker("at haste 0 she is handed it", x, 123, 99, 0, 0);
    }

    private static void lockerOfSlipsAlone() {
        Check.says("who would get a SLIP");
        // 10 is left with 20 while he bears it; 20 hears; 40 was never in
        WeWereIn x = Check.street("v1 1 1;s10 0 0;s20 4095 9;s40 0 0;n0 1 1;");
        locker("one left, one slip", x, 123, 0, 40, 1);
        locker("who is not in the way gets none", x, 12, 0, 0, 0);
        x.round(13, 0);
        locker("from the depot again", x, 123, 0, 40, 1);
        x.fetch(0);
        x.order(0);
        locker("he is tired", x, 123, 0, 10, 1);
        locker("he is tired", x, 123, 15, 25, 2);
        x.fetch(2);
        locker("passed by", x, 123, 15, 0, 1);
    }

    private static void lockerHasBounds() {
        Check.says("LOCKER, d 0 .. 99: what = 0 the yard, 1 how many. UNKNOWN, OUTSIDE");
        WeWereIn x = Check.street("v1 1 1;s50 0 0;");
        for (int d : new int[] {-2, -1, 0, 1, 98, 99, 100, 101, Integer.MIN_VALUE, Integer.MAX_VALUE}) {
            for (int what = -2; what <= 3; what++) {
                boolean bounds = d >= 0 && d <= 99 && what >= 0 && what <= 1;
                int due = what == 1 ? 1 : Math.max(0, 50 - d);
                Check.due("locker " + d + " " + what, x.locker(1, d, what), bounds ? due : Check.OUTSIDE);
                Check.due("locker " + d + " " + what + " by no way", x.locker(2, d, what), Check.UNKNOWN);
            }
        }
        for (int far : Check.FAR) {
            Check.due("locker: what " + far, x.locker(1, 0, far), Check.OUTSIDE);
        }
    }

    // ---- bears, heard

    private static void bearsHowMany() {
        Check.says("BEARS; 0 without a neighbour. UNKNOWN");
        for (int c = 1; c <= 9; c++) {
            WeWereIn x = Check.street("v1 0 1;s0 0 0;s0 1 0;n0 1 " + c + ";");
            Check.due("bears of " + c, x.bears(0), c);
            Check.due("no neighbour", x.bears(1), 0);
            x.round(1, 0);
            Check.due("bears of " + c + " then", x.bears(0), c - 1);
        }
        for (int stops = 0; stops <= 7; stops++) {
            WeWereIn x = Check.street("v1 0 1;" + "s0 0 0;".repeat(stops));
            for (int s = -2; s <= 9; s++) {
                Check.due("bears " + s + " of " + stops, x.bears(s), s >= 0 && s < stops ? 0 : Check.UNKNOWN);
            }
            for (int far : Check.FAR) {
                Check.due("bears " + far, x.bears(far), Check.UNKNOWN);
            }
        }
    }

    private static void heardOfAll() {
        Check.says("a BILLION less (a BILLION times (100 less q) / 100 each, cut)");
        BigInteger hundred = BigInteger.valueOf(100);
        for (int q = 0; q <= 100; q++) {
            WeWereIn x = new WeWereIn();
            BigInteger unheard = BigInteger.valueOf(1000000000);
            for (int n = 0; n <= 60; n++) {
                Check.due("heard " + n + " " + q, x.heard(n, q), 1000000000 - unheard.intValue());
                unheard = unheard.multiply(BigInteger.valueOf(100 - q)).divide(hundred);
            }
        }
    }

    private static void heardHasBounds() {
        Check.says("at least once in n RINGS (0 .. 60), each by q of a hundred (0 .. 100)");
        WeWereIn x = new WeWereIn();
        for (int n : new int[] {Integer.MIN_VALUE, -2, -1, 0, 1, 59, 60, 61, 62, Integer.MAX_VALUE}) {
            for (int q : new int[] {Integer.MIN_VALUE, -2, -1, 0, 1, 99, 100, 101, 102, Integer.MAX_VALUE}) {
                boolean bounds = n >= 0 && n <= 60 && q >= 0 && q <= 100;
                Check.due("heard " + n + " " + q, x.heard(n, q) == Check.OUTSIDE, !bounds);
            }
        }
        Check.due("no ring", x.heard(0, 100), 0);
        Check.due("never heard", x.heard(60, 0), 0);
        Check.due("always heard", x.heard(1, 100), 1000000000);
        Check.due("always heard, sixty", x.heard(60, 100), 1000000000);
        Check.due("one of a hundred, sixty", x.heard(60, 1), 452843380);
    }
}
