/** Promises 8 to 13: round, fetch, order, thank, drift, undo. */
public final class DeedsTest {
    /** Stop 0 takes in for 1 (whose bell is never heard) and 2 (who is never in). */
    private static final String A = "v10 2 3;s5 4095 5;s15 4095 0;s25 0 9;s35 1 9;n1 0 1;n2 0 2;";

    public static void main(String[] args) {
        roundsByHaste();
        passedBy();
        hoursOfTheRound();
        neighboursTire();
        refusedRounds();
        fetching();
        ordering();
        thanking();
        drifting();
        undoing();
        fullOfRounds();
        Check.end();
    }

    private static void roundsByHaste() {
        int[] home = {186, 179, 176, 169};
        String[] state = {
            "2/0 3/1 3/1 2/0 1 186 0", "2/0 3/1 3/1 4/0 1 179 1", "2/0 3/1 3/1 2/0 1 176 0", "2/0 3/1 3/1 4/0 1 169 1"};
        for (int h = 0; h < 4; h++) {
            WeWereIn x = Check.street(A);
            Check.due("round at haste " + h, x.round(1234, h), home[h]);
            Check.due("state at haste " + h, Check.state(x), state[h]);
        }
        WeWereIn x = Check.street(A);
        Check.due("one stop", x.round(4, 0), 150);
        Check.due("one stop: state", Check.state(x), "1/0 1/0 1/0 2/0 1 150 0");
        Check.due("against the rise", x.round(321, 0), 50 + 13 + 20 + 13 + 20 + 10 + 10);
        Check.due("against the rise: state", Check.state(x), "2/0 3/1 3/1 2/0 2 286 0");
    }

    private static void passedBy() {
        WeWereIn x = Check.street(A);
        x.round(1, 0);
        Check.due("no k where he passes by", x.round(1234, 3), 166);
        Check.due("no k where he passes by: state", Check.state(x), "2/0 3/1 3/1 2/0 2 196 0");
        Check.due("nobody counts", x.round(4321, 3), 140);
        Check.due("nobody counts: state", Check.state(x), "2/0 3/1 3/1 2/0 3 336 0");
    }

    private static int becomes(String text, int way, int s) {
        WeWereIn x = Check.street(text);
        x.round(way, 0);
        return x.stop(s, 3);
    }

    private static void hoursOfTheRound() {
        Check.due("second 3540", becomes("v90 60 1;s59 1 9;", 1, 0), 2);
        Check.due("second 3599, rings beyond", becomes("v90 59 1;s61 1 9;", 1, 0), 2);
        Check.due("second 3600, out", becomes("v90 60 1;s60 1 9;", 1, 0), 4);
        Check.due("second 3600, in", becomes("v90 60 1;s60 2 9;", 1, 0), 2);
        Check.due("din as bell", becomes("v1 60 1;s60 4095 3;d0,3;", 1, 0), 4);
        Check.due("din below bell", becomes("v1 60 1;s60 4095 4;d0,3;", 1, 0), 2);
        Check.due("neighbour out at 3600", becomes("v1 60 1;s60 0 0;s0 1 9;n0 1 1;", 1, 0), 4);
        Check.due("neighbour in at 3600", becomes("v1 60 1;s60 0 0;s0 2 0;n0 1 1;", 1, 0), 3);
        String far = "s99 4095 9;s0 4095 9;s99 4095 9;s0 4095 9;";
        Check.due("second 43110", becomes("v45 90 1;" + far + "s81 4095 9;n4 0 1;", 12345, 4), 2);
        Check.due("second 43200", becomes("v45 90 1;" + far + "s82 4095 9;n4 0 1;", 12345, 4), 4);
    }

    private static void neighboursTire() {
        WeWereIn x = Check.street(A);
        x.round(1234, 0);
        x.fetch(1);
        x.order(1);
        Check.due("tired", x.round(2, 0), 73);
        Check.due("tired: state", Check.state(x), "2/0 4/1 3/1 2/0 2 259 1");
        Check.due("tired: from the depot again", x.round(2, 0), 73);
        Check.due("tired: again", Check.state(x), "2/0 4/1 3/1 2/0 3 332 2");
        Check.due("thanked", x.thank(1), 1);
        Check.due("thanked: takes in again", x.round(2, 0), 73);
        Check.due("thanked: state", Check.state(x), "2/0 3/1 3/1 2/0 4 405 2");
        x.fetch(2);
        x.order(2);
        x.round(3, 0);
        Check.due("two for stop 2", x.stop(2, 6), 2);
        Check.due("two for stop 2: left", x.stop(2, 3), 3);
    }

    private static void refusedRounds() {
        WeWereIn x = Check.street(A);
        int[] unknown = {0, -1, 5, 6, 9, 10, 11, 121, 102, 12345, 1203, 1234567890, Integer.MIN_VALUE, Integer.MAX_VALUE};
        for (int way : unknown) {
            Check.due("round " + way, x.round(way, 0), Check.UNKNOWN);
            Check.due("round " + way + ", both", x.round(way, 4), Check.UNKNOWN);
        }
        for (int h : new int[] {-1, 4, 5, Integer.MIN_VALUE, Integer.MAX_VALUE}) {
            Check.due("round at haste " + h, x.round(1, h), Check.OUTSIDE);
        }
        Check.due("refused: state", Check.state(x), "1/0 1/0 1/0 1/0 0 0 0");
        Check.due("refused: undone", x.told(14), 0);
    }

    private static void fetching() {
        WeWereIn x = Check.street(A);
        Check.due("fetch: waits", x.fetch(1), Check.NOT);
        x.round(1234, 1);
        Check.due("fetch: handed", x.fetch(0), Check.NOT);
        Check.due("fetch: left", x.fetch(1), 1);
        Check.due("fetch: depot", x.fetch(3), 0);
        Check.due("fetch: state", Check.state(x), "2/0 2/1 3/1 2/0 1 179 1");
        Check.due("fetch: twice", x.fetch(1), Check.NOT);
        Check.due("fetch: undone", x.told(14), 3);
        Check.due("fetch: no stop", x.fetch(4), Check.UNKNOWN);
        for (int far : Check.FAR) {
            Check.due("fetch " + far, x.fetch(far), Check.UNKNOWN);
        }
    }

    private static void ordering() {
        WeWereIn x = Check.street(A);
        Check.due("order: waits", x.order(0), Check.NOT);
        x.round(1234, 1);
        Check.due("order: left", x.order(1), Check.NOT);
        Check.due("order: depot", x.order(3), Check.NOT);
        Check.due("order: handed", x.order(0), 1);
        Check.due("order: state", Check.state(x), "1/0 3/1 3/1 4/0 1 179 1");
        Check.due("order: twice", x.order(0), Check.NOT);
        Check.due("order: undone", x.told(14), 2);
        Check.due("order: no stop", x.order(4), Check.UNKNOWN);
        for (int far : Check.FAR) {
            Check.due("order " + far, x.order(far), Check.UNKNOWN);
        }
    }

    private static void thanking() {
        WeWereIn x = Check.street(A);
        Check.due("thank: none yet", x.thank(1), 0);
        Check.due("thank: a deed all the same", x.told(14), 1);
        x.round(1234, 0);
        Check.due("thank: no neighbour", x.thank(0), Check.NOT);
        Check.due("thank: one", x.thank(2), 1);
        Check.due("thank: state", Check.state(x), "2/0 3/1 3/0 2/0 1 186 0");
        Check.due("thank: undone", x.told(14), 3);
        Check.due("thank: no stop", x.thank(4), Check.UNKNOWN);
        for (int far : Check.FAR) {
            Check.due("thank " + far, x.thank(far), Check.UNKNOWN);
        }
    }

    /** The same rounds driven by hand, by draws of the test's own. */
    private static void drifting() {
        for (int seed : new int[] {0, 1, 13, 987654321, Integer.MAX_VALUE}) {
            WeWereIn x = Check.street(A);
            WeWereIn y = Check.street(A);
            x.seed(seed);
            long dice = seed;
            for (int i = 0; i < 60; i++) {
                dice = (dice * 1103515245L + 12345L) % 2147483648L;
                y.order((int) (dice / 65536 % 4));
                dice = (dice * 1103515245L + 12345L) % 2147483648L;
                y.round(1234, (int) (dice / 65536 % 4));
                if (i % 20 == 0) {
                    Check.due("drift 1", x.drift(1), y.told(6));
                } else if (i % 20 == 19) {
                    Check.due("drift 19", x.drift(19), y.told(6));
                    Check.due("drift: state", Check.state(x), Check.state(y));
                }
            }
            Check.due("drift: undone", x.told(14), 30);
            Check.due("drift: seed", x.seed(0), (int) dice);
        }
        WeWereIn x = Check.street(A);
        Check.due("drift 20", x.drift(20) > 0, true);
        Check.due("drift 0", x.drift(0), Check.OUTSIDE);
        Check.due("drift 21", x.drift(21), Check.OUTSIDE);
        for (int far : Check.FAR) {
            Check.due("drift " + far, x.drift(far), Check.OUTSIDE);
        }
        Check.tell(x, "v1 0 1;");
        Check.due("drift without stops", x.drift(1), Check.NOT);
        Check.due("drift without stops, both", x.drift(0), Check.OUTSIDE);
        x.seed(3);
        x.drift(1);
        Check.due("drift refused: seed", x.seed(0), 3);
    }

    private static void undoing() {
        WeWereIn x = Check.street(A);
        String[] ahead = new String[6];
        ahead[0] = Check.state(x);
        x.round(1234, 1);
        ahead[1] = Check.state(x);
        x.fetch(1);
        ahead[2] = Check.state(x);
        x.order(0);
        ahead[3] = Check.state(x);
        x.thank(2);
        ahead[4] = Check.state(x);
        x.fetch(0);
        x.order(0);
        x.thank(0);
        x.seed(7);
        x.drift(1);
        int dice = x.seed(9);
        Check.due("undo: how many", x.told(14), 5);
        Check.due("undo a round by draws", x.undo(1), 1);
        Check.due("undo a round by draws: state", Check.state(x), ahead[4]);
        Check.due("undo: the seed stays", x.seed(dice), 9);
        Check.due("undo thank", x.undo(1), 1);
        Check.due("undo thank: state", Check.state(x), ahead[3]);
        Check.due("undo two", x.undo(2), 1);
        Check.due("undo two: state", Check.state(x), ahead[1]);
        Check.due("undo too many", x.undo(2), Check.NOT);
        Check.due("undo too many: state", Check.state(x), ahead[1]);
        Check.due("undo the round", x.undo(1), 0);
        Check.due("undo the round: state", Check.state(x), ahead[0]);
        Check.due("undo none", x.undo(1), Check.NOT);
        Check.due("undo 0", x.undo(0), Check.OUTSIDE);
        Check.due("undo 31", x.undo(31), Check.OUTSIDE);
        for (int far : Check.FAR) {
            Check.due("undo " + far, x.undo(far), Check.OUTSIDE);
        }
        thirtyAreKept();
    }

    private static WeWereIn drifted(int rounds) {
        WeWereIn x = Check.street(A);
        for (int i = 0; i < rounds; i++) {
            x.drift(1);
        }
        return x;
    }

    private static void thirtyAreKept() {
        WeWereIn x = drifted(47);
        String ahead = Check.state(drifted(17));
        Check.due("thirty", x.told(14), 30);
        Check.due("undo 30", x.undo(30), 17);
        Check.due("undo 30: state", Check.state(x), ahead);
        Check.due("undo 31st", x.undo(1), Check.NOT);
        x.drift(20);
        Check.due("undo 20", x.undo(20), 17);
        Check.due("undo 20: state", Check.state(x), ahead);
    }

    private static void fullOfRounds() {
        WeWereIn x = Check.street("v1 1 1;s5 0 0;");
        for (int i = 0; i < 450; i++) {
            x.drift(20);
        }
        Check.due("9000 rounds", x.told(5), 9000);
        Check.due("one more", x.round(1, 0), 12);
        Check.due("9001 rounds", x.told(5), 9001);
        Check.due("round: full", x.round(1, 0), Check.FULL);
        Check.due("round: outside ahead of full", x.round(1, 4), Check.OUTSIDE);
        Check.due("round: unknown ahead of full", x.round(2, 4), Check.UNKNOWN);
        Check.due("drift: full", x.drift(1), Check.FULL);
        Check.due("drift: outside ahead of full", x.drift(21), Check.OUTSIDE);
        Check.due("tried all the same", x.home(1, 0), 12);
        Check.due("full: undo", x.undo(1), 9000);
        Check.due("drift from 9000", x.drift(20) > 0, true);
        Check.due("9020 rounds", x.told(5), 9020);
        Check.due("drift: full again", x.drift(20), Check.FULL);
        Check.due("full: the deeds kept", x.told(14), 30);
    }
}
