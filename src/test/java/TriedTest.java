/** Promises 14 to 22: comes, home, outcome, bath, bestWay, pretends, locker, bears, heard. */
public final class TriedTest {
    /** Stop 0 takes in for 1 (whose bell is never heard) and 2 (who is never in). */
    private static final String A = "v10 2 3;s5 4095 5;s15 4095 0;s25 0 9;s35 1 9;n1 0 1;n2 0 2;";
    private static final int[] NO_WAY = {0, -1, 5, 11, 102, 12345, 1234567890, Integer.MIN_VALUE, Integer.MAX_VALUE};

    public static void main(String[] args) {
        coming();
        backHome();
        outcomes();
        baths();
        bestWays();
        bestWaysOfAll();
        pretending();
        lockers();
        bearing();
        hearing();
        Check.end();
    }

    private static void coming() {
        WeWereIn x = Check.street(A);
        int[][] due = {{10, 40, 73, 106}, {10, 40, 73, 106}, {10, 40, 73, 96}, {10, 40, 63, 96}};
        for (int h = 0; h < 4; h++) {
            for (int s = 0; s < 4; s++) {
                Check.due("comes to " + s + " at haste " + h, x.comes(s, 1234, h), due[h][s]);
            }
        }
        Check.due("comes: not in the way", x.comes(0, 234, 0), Check.NONE);
        Check.due("comes: first of the way", x.comes(3, 41, 0), 70);
        Check.due("comes: behind another", x.comes(0, 41, 0), 140);
        x.round(1234, 0);
        Check.due("comes: passes by", x.comes(3, 1234, 0), 70);
        for (int way : NO_WAY) {
            Check.due("comes by " + way, x.comes(0, way, 4), Check.UNKNOWN);
        }
        Check.due("comes: no stop", x.comes(4, 1, 4), Check.UNKNOWN);
        for (int far : Check.FAR) {
            Check.due("comes to " + far, x.comes(far, 1, 0), Check.UNKNOWN);
            Check.due("comes at haste " + far, x.comes(0, 1, far), Check.OUTSIDE);
        }
        Check.due("comes at haste 4", x.comes(0, 1, 4), Check.OUTSIDE);
    }

    private static void backHome() {
        WeWereIn x = Check.street(A);
        int[] due = {186, 179, 176, 169};
        for (int h = 0; h < 4; h++) {
            Check.due("home at haste " + h, x.home(1234, h), due[h]);
        }
        Check.due("home: nothing changes", Check.state(x), "1/0 1/0 1/0 1/0 0 0 0");
        x.round(1234, 1);
        Check.due("home: only the depot's counts", x.home(1234, 1), 150);
        for (int way : NO_WAY) {
            Check.due("home by " + way, x.home(way, 4), Check.UNKNOWN);
        }
        for (int far : Check.FAR) {
            Check.due("home at haste " + far, x.home(1, far), Check.OUTSIDE);
        }
        Check.due("home at haste 4", x.home(1, 4), Check.OUTSIDE);
    }

    private static void outcomes() {
        WeWereIn x = Check.street(A);
        int[] due = {2332, 2334, 2332, 2334};
        for (int h = 0; h < 4; h++) {
            Check.due("outcome at haste " + h, x.outcome(1234, h), due[h]);
        }
        Check.due("outcome of one", x.outcome(3, 0), 1131);
        Check.due("outcome: nothing changes", Check.state(x), "1/0 1/0 1/0 1/0 0 0 0");
        x.round(24, 3);
        Check.due("outcome of others", x.outcome(31, 0), 2334);
        for (int way : NO_WAY) {
            Check.due("outcome of " + way, x.outcome(way, 4), Check.UNKNOWN);
        }
        for (int far : Check.FAR) {
            Check.due("outcome at haste " + far, x.outcome(1, far), Check.OUTSIDE);
        }
        Check.due("outcome at haste 4", x.outcome(1, 4), Check.OUTSIDE);
    }

    private static void baths() {
        WeWereIn x = Check.street("v60 60 1;s0 4095 9;s1 4095 9;s2 4095 9;s30 4095 9;s99 0 0;");
        Check.due("there at second 0", x.bath(0, 1, 1, 1), 1);
        Check.due("there at second 60", x.bath(1, 2, 2, 1), 0);
        Check.due("there at second 60, two minutes", x.bath(1, 2, 2, 2), 2);
        Check.due("never there", x.bath(0, 2, 3, 99), 0);
        Check.due("there by a alone", x.bath(0, 1, 2, 5), 1);
        Check.due("there by b alone", x.bath(0, 2, 1, 5), 1);
        Check.due("there at 1800, 30 minutes", x.bath(3, 4, 4, 30), 0);
        Check.due("there at 1800, 31 minutes", x.bath(3, 4, 4, 31), 31);
        Check.due("there at 60 and at 1860", x.bath(3, 41, 14, 30), 0);
        Check.due("there at 1800 and at 1860", x.bath(3, 41, 14, 31), 32);
        Check.due("between two", x.bath(1, 2, 42, 55), 2);
        Check.due("behind both", x.bath(1, 2, 42, 59), 61);
        x.round(1, 0);
        Check.due("passes by", x.bath(0, 1, 1, 1), 1);
        // a ring takes a minute: he is at the fifth in minute 4 at haste 0, in minute 3 at haste 1
        WeWereIn y = Check.street("v60 0 1;s0 4095 9;s0 4095 9;s0 4095 9;s0 4095 9;s0 4095 9;");
        Check.due("at haste 0 by a", y.bath(4, 12345, 1, 4), 0);
        Check.due("at haste 0 by b", y.bath(4, 1, 12345, 4), 0);
        Check.due("at haste 0, five minutes", y.bath(4, 12345, 1, 5), 5);
        y = Check.street("v1 59 1;s1 4095 9;s61 4095 9;");
        Check.due("there at second 59", y.bath(0, 1, 1, 1), 1);
        Check.due("there at second 3599", y.bath(1, 2, 1, 60), 60);
        Check.due("no stop", x.bath(5, 1, 1, 0), Check.UNKNOWN);
        for (int way : new int[] {0, -5, 6, 11, 1234567}) {
            Check.due("a is no way", x.bath(0, way, 1, 0), Check.UNKNOWN);
            Check.due("b is no way", x.bath(0, 1, way, 0), Check.UNKNOWN);
        }
        Check.due("no minute", x.bath(0, 1, 1, 0), Check.OUTSIDE);
        Check.due("100 minutes", x.bath(0, 1, 1, 100), Check.OUTSIDE);
        for (int far : Check.FAR) {
            Check.due("bath at " + far, x.bath(far, 1, 1, 1), Check.UNKNOWN);
            Check.due("bath of " + far, x.bath(0, 1, 1, far), Check.OUTSIDE);
        }
    }

    private static void best(WeWereIn x, int h, int way, int handed, int home) {
        Check.due("best way at haste " + h, x.bestWay(h, 0), way);
        Check.due("best way at haste " + h + ": handed", x.bestWay(h, 1), handed);
        Check.due("best way at haste " + h + ": home", x.bestWay(h, 2), home);
    }

    private static void bestWays() {
        WeWereIn x = Check.street(A);
        best(x, 0, 1234, 2, 186);
        best(x, 3, 1243, 2, 166);
        x.round(1, 0);
        best(x, 0, 234, 1, 140 + 13 + 13 + 10);
        x.round(234, 1);
        Check.due("no stop counts", Check.state(x).startsWith("2/0 3/1 3/1 2/0"), true);
        best(x, 0, Check.NONE, Check.NONE, Check.NONE);
        Check.due("NONE, outside", x.bestWay(4, 0), Check.OUTSIDE);
        for (int far : Check.FAR) {
            Check.due("best way at haste " + far, x.bestWay(far, 0), Check.OUTSIDE);
            Check.due("best way: what " + far, x.bestWay(0, far), Check.OUTSIDE);
        }
        Check.due("best way: what 3", x.bestWay(0, 3), Check.OUTSIDE);
        x.order(3);
        best(x, 0, 4, 1, 150);
        // who is in late is handed only if he comes late, though home is later by that
        x = Check.street("v1 60 1;s60 3 9;s30 2 9;");
        best(x, 0, 12, 2, 60 * 120 + 2);
        x = Check.street("v1 60 1;s60 3 9;s30 1 9;");
        best(x, 0, 21, 2, 60 * 120 + 2);
    }

    /** Against home() and outcome() by every way. */
    private static void bestWaysOfAll() {
        String[] texts = {
            A, Check.FOUR, "v90 99 30;s99 4095 9;s0 3 9;s99 77 9;s50 4000 9;s20 255 7;d0,1,2,3,4,5,6,7,8;n0 1 9;n1 0 9;n2 1 1;",
            "v20 30 10;s80 6 9;s10 1 9;s40 5 2;s99 4 9;s3 9 4;d1,4;n3 4 2;", "v5 0 5;s1 1 1;s1 1 0;s1 0 1;s1 1 1;n0 1 1;"};
        for (String text : texts) {
            for (int drifts = 0; drifts < 6; drifts++) {
                for (int h = 0; h < 4; h++) {
                    againstAll(text, drifts, h);
                }
            }
        }
    }

    private static WeWereIn drifted(String text, int drifts) {
        WeWereIn x = Check.street(text);
        if (drifts > 0) {
            x.drift(drifts);
        }
        return x;
    }

    /** A new object for each way: no object is asked more than 512 times. */
    private static void againstAll(String text, int drifts, int h) {
        WeWereIn x = drifted(text, drifts);
        int counts = x.told(8) | x.told(11);
        int handedAhead = Integer.bitCount(x.told(9));
        int way = Check.NONE;
        int handed = Check.NONE;
        int home = Check.NONE;
        for (int w = 1; w < 60000 && counts != 0; w++) {
            int set = 0;
            for (int rest = w; rest > 0; rest /= 10) {
                set |= rest % 10 == 0 ? 1 << 30 : 1 << rest % 10 - 1;
            }
            if (set != counts || Integer.toString(w).length() != Integer.bitCount(counts)) {
                continue;
            }
            WeWereIn y = drifted(text, drifts);
            int got = twos(y.outcome(w, h)) - handedAhead;
            int back = y.home(w, h);
            if (got > handed || got == handed && back < home) {
                way = w;
                handed = got;
                home = back;
            }
        }
        best(x, h, way, handed, home);
    }

    private static int twos(int outcome) {
        return (int) Integer.toString(outcome).chars().filter(c -> c == '2').count();
    }

    private static void pretending() {
        WeWereIn x = Check.street(A);
        int[] sooner = {0, 7, 10, 17};
        int[] costs = {100, 101, 100, 101};
        for (int h = 0; h < 4; h++) {
            Check.due("pretends at haste " + h, x.pretends(1234, h, 0), sooner[h]);
            Check.due("costs at haste " + h, x.pretends(1234, h, 1), costs[h]);
        }
        // a slip takes longer than a ring: pretending pays him less than nothing
        x = Check.street("v5 0 30;s0 1 9;s0 1 9;");
        Check.due("pretends: below 0", x.pretends(12, 3, 0), -25);
        Check.due("pretends: below 0, costs", x.pretends(12, 3, 1), 101);
        // by the rings that he spares he comes to the last in time: it costs less than nothing
        x = Check.street("v90 75 1;s45 4095 0;s45 4095 0;s45 4095 0;s45 1 9;");
        Check.due("pretends: comes in time, sooner", x.pretends(1234, 2, 0), 91);
        Check.due("pretends: comes in time", x.pretends(1234, 2, 1), 99);
        Check.due("pretends: in time, but does not ring", x.pretends(1234, 3, 1), 100);
        for (int way : new int[] {0, -1, 5, 11, 12345}) {
            Check.due("pretends by " + way, x.pretends(way, 4, 2), Check.UNKNOWN);
        }
        for (int far : Check.FAR) {
            Check.due("pretends at haste " + far, x.pretends(1, far, 0), Check.OUTSIDE);
            Check.due("pretends: what " + far, x.pretends(1, 0, far), Check.OUTSIDE);
        }
        Check.due("pretends at haste 4", x.pretends(1, 4, 0), Check.OUTSIDE);
        Check.due("pretends: what 2", x.pretends(1, 0, 2), Check.OUTSIDE);
    }

    private static void locker(WeWereIn x, int way, int d, int yard, int many) {
        Check.due("locker by " + way + ", " + d, x.locker(way, d, 0), yard);
        Check.due("locker by " + way + ", " + d + ": how many", x.locker(way, d, 1), many);
    }

    private static void lockers() {
        WeWereIn x = Check.street("v1 1 1;s50 0 0;s60 0 0;s99 0 0;s10 1 9;s60 0 0;n4 3 1;");
        locker(x, 12345, 0, 50, 1);
        locker(x, 12345, 4, 46, 1);
        locker(x, 12345, 5, 55, 2);
        locker(x, 12345, 6, 54, 2);
        locker(x, 12345, 24, 36, 2);
        locker(x, 12345, 25, 74, 3);
        locker(x, 12345, 99, 0, 3);
        locker(x, 3, 0, 99, 1);
        locker(x, 4, 99, 0, 0);
        x.round(5, 0);
        x.fetch(4);
        x.order(4);
        locker(x, 12345, 0, 60, 2);
        x.round(12, 0);
        locker(x, 12, 0, 50, 1);
        x.fetch(0);
        locker(x, 12, 0, 60, 1);
        for (int way : new int[] {0, -1, 6, 11, 123456}) {
            Check.due("locker by " + way, x.locker(way, 100, 2), Check.UNKNOWN);
        }
        for (int far : Check.FAR) {
            Check.due("locker, d " + far, x.locker(1, far, 0), Check.OUTSIDE);
            Check.due("locker, what " + far, x.locker(1, 0, far), Check.OUTSIDE);
        }
        Check.due("locker, d 100", x.locker(1, 100, 0), Check.OUTSIDE);
        Check.due("locker, what 2", x.locker(1, 0, 2), Check.OUTSIDE);
    }

    private static void bearing() {
        WeWereIn x = Check.street(A);
        Check.due("bears: no neighbour", x.bears(0), 0);
        Check.due("bears 1", x.bears(1), 1);
        Check.due("bears 2", x.bears(2), 2);
        x.round(1234, 0);
        Check.due("bears 1 then", x.bears(1), 0);
        Check.due("bears 2 then", x.bears(2), 1);
        x.fetch(2);
        Check.due("bears 2 fetched", x.bears(2), 1);
        x.thank(2);
        Check.due("bears 2 thanked", x.bears(2), 2);
        Check.due("bears: no stop", x.bears(4), Check.UNKNOWN);
        for (int far : Check.FAR) {
            Check.due("bears " + far, x.bears(far), Check.UNKNOWN);
        }
    }

    private static void hearing() {
        WeWereIn x = new WeWereIn();
        int[][] due = {
            {0, 0, 0}, {0, 100, 0}, {1, 100, 1000000000}, {60, 0, 0}, {1, 1, 10000000}, {2, 10, 190000000}, {3, 50, 875000000},
            {60, 1, 452843380}, {60, 100, 1000000000}, {60, 99, 1000000000}, {10, 50, 999023438}, {5, 99, 1000000000},
            {4, 99, 999999990}};
        for (int[] row : due) {
            Check.due("heard " + row[0] + " " + row[1], x.heard(row[0], row[1]), row[2]);
        }
        Check.due("heard 61", x.heard(61, 0), Check.OUTSIDE);
        Check.due("heard q 101", x.heard(0, 101), Check.OUTSIDE);
        for (int far : Check.FAR) {
            Check.due("heard " + far, x.heard(far, 0), Check.OUTSIDE);
            Check.due("heard q " + far, x.heard(0, far), Check.OUTSIDE);
        }
    }
}
