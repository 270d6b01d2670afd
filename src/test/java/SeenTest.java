/** Promises 23 to 27: see, rang, write, judge, tear. */
public final class SeenTest {
    /** All are in and hear; nobody takes in: a slip means that he did not ring. */
    private static final String HONEST = "v1 1 1;s1 4095 9;s2 4095 9;s3 4095 9;s4 4095 9;s5 4095 9;s6 4095 9;s7 4095 9;";

    public static void main(String[] args) {
        seeing();
        rangByWhatWasSeen();
        asking();
        allWaitAndNoneIsTired();
        writing();
        judging();
        tearing();
        Check.end();
    }

    private static void seeing() {
        WeWereIn x = Check.street(HONEST);
        for (int i = 1; i <= 6; i++) {
            Check.due("see " + i, x.see(i, i % 2 == 0), i);
        }
        Check.due("seen", x.told(12), 6);
        Check.due("see 7", x.see(0, true), Check.FULL);
        Check.due("see: no stop ahead of full", x.see(7, true), Check.UNKNOWN);
        for (int far : Check.FAR) {
            Check.due("see " + far, x.see(far, false), Check.UNKNOWN);
        }
        Check.due("seen still", x.told(12), 6);
    }

    private static void rangByWhatWasSeen() {
        // not rung at: haste 1 turn 4; haste 2 turns 3, 6; haste 3 turns 2, 4, 6
        int[] set = {0, 8, 4, 10, 0, 12, 0};
        for (int s = 0; s < 7; s++) {
            WeWereIn x = Check.street(HONEST);
            x.see(s, true);
            Check.due("rang: slip at " + s, x.rang(1234567, 0), set[s]);
            x.tear();
            x.see(s, false);
            Check.due("rang: none at " + s, x.rang(1234567, 0), 15 - set[s]);
        }
        WeWereIn x = Check.street(HONEST);
        Check.due("rang: nothing seen", x.rang(1234567, 0), 15);
        x.see(3, true);
        x.see(1, false);
        Check.due("rang: two seen", x.rang(1234567, 0), 2);
        Check.due("rang: by another way", x.rang(7654, 0), 10);
        Check.due("rang: not in the way", x.rang(123, 0), 0);
        x.see(3, false);
        Check.due("rang: nothing fits", x.rang(1234567, 0), 0);
        Check.due("rang: nothing to ask", x.rang(1234567, 1), Check.NONE);
        for (int way : new int[] {0, -1, 8, 11, 12345678, Integer.MAX_VALUE, Integer.MIN_VALUE}) {
            Check.due("rang by " + way, x.rang(way, 2), Check.UNKNOWN);
        }
        for (int far : Check.FAR) {
            Check.due("rang, what " + far, x.rang(1, far), Check.OUTSIDE);
        }
        Check.due("rang, what 2", x.rang(1, 2), Check.OUTSIDE);
    }

    private static void asking() {
        WeWereIn x = Check.street(HONEST);
        Check.due("ask: halves ahead of quarters", x.rang(1234567, 1), 3);
        Check.due("ask: by 7654321", x.rang(7654321, 1), 1);
        Check.due("ask: quarters, the least", x.rang(123, 1), 1);
        Check.due("ask: none parts", x.rang(1, 1), Check.NONE);
        x.see(3, true);
        Check.due("ask: 1 or 3", x.rang(1234567, 1), 1);
        x.see(5, false);
        Check.due("ask: only one fits", x.rang(1234567, 1), Check.NONE);
        x.tear();
        x.see(1, false);
        Check.due("ask: 0, 1 or 2", x.rang(1234567, 1), 2);
        x.see(2, false);
        Check.due("ask: 0 or 1", x.rang(1234567, 1), 3);
        Check.due("ask: stop 0", x.rang(21, 1), 0);
        // at haste 0 and 1 he comes to the last in HOUR 1, when she is out; at 2 and 3 in time
        x = Check.street("v90 75 1;s43 0 0;s43 0 0;s43 0 0;s43 4095 9;s43 0 0;s43 0 0;s43 1 9;");
        x.see(3, false);
        Check.due("haste 0 or 2", x.rang(1234567, 0), 5);
        Check.due("haste 0 or 2: ask the last", x.rang(1234567, 1), 6);
        x.tear();
        x.see(6, true);
        Check.due("too late for the last", x.rang(1234567, 0), 3);
        // LEFT is no slip
        x = Check.street("v1 1 1;s1 4095 9;s2 4095 9;n1 0 1;");
        Check.due("left is no slip", x.rang(12, 1), Check.NONE);
        x.see(1, true);
        Check.due("left is no slip: nothing fits", x.rang(12, 0), 0);
    }

    private static void allWaitAndNoneIsTired() {
        WeWereIn x = Check.street("v1 1 1;s1 4095 9;s2 4095 9;s3 0 0;n2 0 1;");
        x.round(123, 0);
        x.fetch(2);
        x.order(2);
        x.see(2, false);
        Check.due("none is tired", x.rang(123, 0), 15);
        x.see(1, true);
        Check.due("all wait", x.rang(123, 0), 8);
        Check.due("nothing changes", Check.state(x), "2/0 2/0 1/1 1 10 0");
    }

    private static void writing() {
        WeWereIn x = Check.street(HONEST);
        Check.due("write 0", x.write(0, 0), Check.OUTSIDE);
        Check.due("write 5", x.write(0, 5), Check.OUTSIDE);
        for (int i = 1; i <= 20; i++) {
            Check.due("write " + i, x.write(i % 7, i % 4 + 1), i);
        }
        Check.due("entries", x.told(13), 20);
        Check.due("write 21", x.write(0, 1), Check.FULL);
        Check.due("write: outside ahead of full", x.write(0, 0), Check.OUTSIDE);
        Check.due("write: unknown ahead of all", x.write(7, 0), Check.UNKNOWN);
        for (int far : Check.FAR) {
            Check.due("write of " + far, x.write(far, 1), Check.UNKNOWN);
            Check.due("write " + far, x.write(0, far), Check.OUTSIDE);
        }
    }

    private static void judging() {
        WeWereIn x = Check.street("v1 1 1;s1 4095 9;s2 4095 0;s3 0 9;n1 0 1;");
        Check.due("no book", x.judge(), Check.NONE);
        x.write(0, 1);
        x.write(1, 1);
        x.write(0, 2);
        Check.due("wrong of two entries", x.judge(), 2);
        x.round(123, 0);
        Check.due("wrong then", x.judge(), 0);
        x.tear();
        x.write(0, 2);
        x.write(1, 3);
        x.write(2, 4);
        Check.due("none wrong", x.judge(), Check.NONE);
        x.undo(1);
        Check.due("wrong again", x.judge(), 0);
        x.tear();
        for (int i = 0; i < 19; i++) {
            x.write(0, 1);
        }
        x.write(0, 4);
        Check.due("wrong: the twentieth", x.judge(), 19);
    }

    private static void tearing() {
        WeWereIn x = Check.street(HONEST);
        x.see(0, true);
        x.see(1, true);
        x.write(0, 4);
        Check.due("tear", x.tear(), 3);
        Check.due("torn: seen", x.told(12), 0);
        Check.due("torn: book", x.told(13), 0);
        Check.due("torn: rang", x.rang(1234567, 0), 15);
        Check.due("torn: judge", x.judge(), Check.NONE);
        Check.due("tear again", x.tear(), 0);
    }
}
