/** Promises 1 to 7: a new object, feed, street, fault, told, stop, din. */
public final class StreetTest {
    private static final String V = "v1 0 1;";
    private static final String TWO = "v1 0 1;s1 1 1;s2 2 2;";

    public static void main(String[] args) {
        aNewObject();
        feeding();
        goodTexts();
        emptyTexts();
        faultsOfPlace();
        faultsOfNumbers();
        faultsOfNumber3();
        faultsOfNeighbours();
        aFaultChangesNothing();
        aStreetBeginsAnew();
        telling();
        stops();
        dins();
        Check.end();
    }

    private static void aNewObject() {
        WeWereIn x = new WeWereIn();
        for (int what = 0; what <= 14; what++) {
            Check.due("new: told " + what, x.told(what), 0);
        }
        Check.due("new: fault", x.fault(), Check.NONE);
        Check.due("new: stop", x.stop(0, 0), Check.UNKNOWN);
        Check.due("new: din", x.din(0), 0);
        Check.due("new: drift", x.drift(1), Check.NOT);
        Check.due("new: undo", x.undo(1), Check.NOT);
        Check.due("new: goBack", x.goBack(0), Check.NOT);
        Check.due("new: bestWay", x.bestWay(0, 0), Check.NONE);
        Check.due("new: judge", x.judge(), Check.NONE);
        Check.due("new: tear", x.tear(), 0);
        Check.due("new: round", x.round(1, 0), Check.UNKNOWN);
        Check.due("new: outcome", x.outcome(1, 0), Check.UNKNOWN);
        Check.due("new: seed", x.seed(0), 0);
    }

    private static void feeding() {
        WeWereIn x = new WeWereIn();
        Check.due("feed -1", x.feed(-1), Check.OUTSIDE);
        Check.due("feed 256", x.feed(256), Check.OUTSIDE);
        Check.due("feed 0", x.feed(0), 1);
        Check.due("feed 255", x.feed(255), 2);
        for (int n = 3; n <= 240; n++) {
            Check.due("feed " + n, x.feed(' '), n);
        }
        Check.due("feed 241", x.feed(' '), Check.FULL);
        Check.due("feed 241, outside", x.feed(256), Check.OUTSIDE);
        Check.due("letters", x.told(4), 240);
        Check.due("letter 0 is no word", x.street(), -11);
        Check.due("letters behind a fault", x.told(4), 0);
        Check.due("feed behind a fault", x.feed('v'), 1);
    }

    private static void goodTexts() {
        Check.good("v1 0 1;", 0);
        Check.good("v90 99 30;", 0);
        Check.good("v0090 0099 0030;", 0);
        Check.good("  v  1  0  1  ;  s  99  4095  9  ;  d  9  ,  0  ;  s0 0 0;n  0  1  9  ;  ", 2);
        Check.good(V + "d0;", 0);
        Check.good(V + "d1,2,3,4,5,6,7,8,9,0,1,2;", 0);
        Check.good(V + "s0 0 0;s0 0 0;s0 0 0;s0 0 0;s0 0 0;s0 0 0;s0 0 0;", 7);
        Check.good(TWO + "n0 1 1;n1 0 9;", 2);
        Check.good(TWO + "d1;s3 3 3;n2 0 4;", 3);
        Check.good(" ".repeat(233) + V, 0);
    }

    private static void emptyTexts() {
        for (String text : new String[] {"", "   "}) {
            WeWereIn x = Check.street(Check.FOUR);
            x.round(1, 0);
            x.keep(0);
            Check.due("empty text", Check.tell(x, text), 0);
            Check.due("empty text: fault", x.fault(), Check.NONE);
            for (int what = 0; what <= 14; what++) {
                Check.due("empty text: told " + what, x.told(what), 0);
            }
            Check.due("empty text: din", x.din(0), 0);
            Check.due("empty text: image", x.goBack(0), Check.NOT);
        }
    }

    private static void faultsOfPlace() {
        Check.bad("x", 1, 0);
        Check.bad("  d1;", 1, 2);
        Check.bad("s0 0 0;" + V, 1, 0);
        Check.bad("n0 0 1;", 1, 0);
        Check.bad("7;", 1, 0);
        Check.bad(";", 1, 0);
        Check.bad("V1 0 1;", 1, 0);
        Check.bad("v", 1, 1);
        Check.bad("v ", 1, 2);
        Check.bad("v1", 1, 2);
        Check.bad("v1 0 1", 1, 6);
        Check.bad("v1 0 1  ", 1, 8);
        Check.bad("v1 0;", 1, 4);
        Check.bad("v1 01;", 1, 5);
        Check.bad("v1,0 1;", 1, 2);
        Check.bad("v1 0 1 2;", 1, 7);
        Check.bad("v-1 0 1;", 1, 1);
        Check.bad("v1\t0 1;", 1, 2);
        Check.bad("v1 0 v", 1, 5);
        Check.bad(V + ";", 1, 7);
        Check.bad(V + "x", 1, 7);
        Check.bad(V + "7", 1, 7);
        Check.bad(V + "12345", 1, 7);
        Check.bad(V + "d;", 1, 8);
        Check.bad(V + "d1,;", 1, 10);
        Check.bad(V + "d1 2;", 1, 10);
        Check.bad(V + "d1,2", 1, 11);
        Check.bad(V + "d1,2,", 1, 12);
        Check.bad(V + "d1,2,3,4,5,6,7,8,9,0,1,2,3;", 1, 31);
        Check.bad(V + "d1,2,3,4,5,6,7,8,9,0,1,2 , 99999;", 1, 32);
        Check.bad(V + "s1 1;", 1, 11);
        Check.bad(V + "s1 1 1 1;", 1, 14);
        Check.bad(TWO + "n0 1;", 1, 25);
        Check.bad(TWO + "n;", 1, 22);
        Check.bad(TWO + "n0 1 1", 1, 27);
        Check.bad(" ".repeat(234) + V.substring(0, 6), 1, 240);
    }

    private static void faultsOfNumbers() {
        Check.bad("v0 0 1;", 2, 1);
        Check.bad("v91 0 1;", 2, 1);
        Check.bad("v 91 0 1;", 2, 2);
        Check.bad("v1 100 1;", 2, 3);
        Check.bad("v1 0 0;", 2, 5);
        Check.bad("v1 0 31;", 2, 5);
        Check.bad("v00001 0 1;", 2, 1);
        Check.bad("v99999999999999999999 0 1;", 2, 1);
        Check.bad("v1 4294967296 1;", 2, 3);
        Check.bad("v12345x", 2, 1);
        Check.bad("v91", 2, 1);
        Check.bad(V + "s100 0 0;", 2, 8);
        Check.bad(V + "s0 4096 0;", 2, 10);
        Check.bad(V + "s0 0 10;", 2, 12);
        Check.bad(V + "d10;", 2, 8);
        Check.bad(V + "d1,10;", 2, 10);
        Check.bad(V + "d00000;", 2, 8);
        Check.bad(V + "n0 0 1;", 2, 8);
        Check.bad(TWO + "n2 0 1;", 2, 22);
        Check.bad(TWO + "n2 2 1;", 2, 22);
        Check.bad(TWO + "n0 2 1;s3 3 3;", 2, 24);
        Check.bad(TWO + "n0 1 0;", 2, 26);
        Check.bad(TWO + "n0 1 10;", 2, 26);
        Check.bad(TWO + "n00001 0 1;", 2, 22);
    }

    private static void faultsOfNumber3() {
        Check.bad(V + V, 3, 7);
        Check.bad(V + " v", 3, 8);
        Check.bad(V + "vx", 3, 7);
        Check.bad(V + "d1;d", 3, 10);
        Check.bad(V + "d1;s1 1 1; d2;", 3, 18);
        Check.bad(V + "s0 0 0;".repeat(7) + "s0 0 0;", 3, 56);
        Check.bad(V + "s0 0 0;".repeat(7) + "s", 3, 56);
    }

    private static void faultsOfNeighbours() {
        Check.bad(TWO + "n0 0 1;", 4, 24);
        Check.bad(TWO + "n1 01 1;", 4, 24);
        Check.bad(TWO + "n0 1 1;n0 1 1;", 4, 29);
        Check.bad(TWO + "n0 1 1;n0 0 1;", 4, 29);
        Check.bad(TWO + "n0 1 1;n 0 9 1;", 4, 30);
        Check.bad(TWO + "n0 1 1;n0x", 4, 29);
    }

    private static void aFaultChangesNothing() {
        WeWereIn x = Check.street(Check.FOUR);
        x.keep(1);
        x.round(21, 1);
        x.see(2, true);
        x.write(1, 3);
        x.seed(77);
        String ahead = Check.state(x);
        Check.due("faulty", Check.tell(x, "v2 2 2;s1 1 1;d1;d1;"), -13);
        Check.due("faulty: at", x.fault(), 17);
        Check.due("faulty: state", Check.state(x), ahead);
        Check.due("faulty: R", x.told(0), 30);
        Check.due("faulty: din", x.din(1), 4);
        Check.due("faulty: seen", x.told(12), 1);
        Check.due("faulty: book", x.told(13), 1);
        Check.due("faulty: undone", x.told(14), 1);
        Check.due("faulty: stop", x.stop(0, 0), 10);
        Check.due("faulty: image", x.goBack(1), 1);
        Check.due("faulty: fault stays", x.fault(), 17);
        Check.due("faulty: then none", Check.tell(x, V), 0);
        Check.due("faulty: then no fault", x.fault(), Check.NONE);
    }

    private static void aStreetBeginsAnew() {
        WeWereIn x = Check.street(Check.FOUR);
        x.seed(5);
        x.round(2134, 3);
        Check.due("anew: a slip ahead", x.told(7), 1);
        x.keep(0);
        x.keep(1);
        x.fetch(3);
        x.see(0, true);
        x.write(0, 1);
        Check.due("anew", Check.tell(x, Check.FOUR), 4);
        Check.due("anew: state", Check.state(x), "1/0 1/0 1/0 1/0 0 0 0");
        Check.due("anew: seen", x.told(12), 0);
        Check.due("anew: book", x.told(13), 0);
        Check.due("anew: undone", x.told(14), 0);
        Check.due("anew: image 0", x.goBack(0), Check.NOT);
        Check.due("anew: image 1", x.goBack(1), Check.NOT);
        Check.due("anew: seed", x.seed(0), 5);
        Check.due("anew: shorter", Check.tell(x, TWO), 2);
        Check.due("anew: no neighbour", x.stop(1, 4), Check.NONE);
        Check.due("anew: C", x.stop(1, 5), 0);
        Check.due("anew: din", x.din(0), 0);
        Check.due("anew: gone stop", x.stop(2, 0), Check.UNKNOWN);
    }

    private static void telling() {
        WeWereIn x = Check.street("v31 0 12;s5 1 9;s6 0 0;s5 4095 0;s6 0 0;n1 0 9;n3 2 1;");
        x.round(4321, 0);
        x.see(0, true);
        x.write(0, 1);
        x.write(0, 2);
        x.feed(' ');
        int[] due = {31, 0, 12, 4, 1, 1, 160, 1, 0, 1, 10, 4, 1, 2, 1};
        for (int what = 0; what < due.length; what++) {
            Check.due("told " + what, x.told(what), due[what]);
        }
        Check.due("told -1", x.told(-1), Check.OUTSIDE);
        Check.due("told 15", x.told(15), Check.OUTSIDE);
        for (int far : Check.FAR) {
            Check.due("told " + far, x.told(far), Check.OUTSIDE);
        }
    }

    private static void stops() {
        WeWereIn x = Check.street(V + "s99 4095 9;s0 0 0;n0 1 7;");
        int[][] due = {{99, 4095, 9, 1, 1, 7, 0}, {0, 0, 0, 1, Check.NONE, 0, 0}};
        for (int s = 0; s < 2; s++) {
            for (int what = 0; what < 7; what++) {
                Check.due("stop " + s + " " + what, x.stop(s, what), due[s][what]);
            }
            Check.due("stop " + s + " -1", x.stop(s, -1), Check.OUTSIDE);
            Check.due("stop " + s + " 7", x.stop(s, 7), Check.OUTSIDE);
        }
        Check.due("stop 2", x.stop(2, 0), Check.UNKNOWN);
        Check.due("stop 2, both", x.stop(2, 7), Check.UNKNOWN);
        for (int far : Check.FAR) {
            Check.due("stop " + far, x.stop(far, far), Check.UNKNOWN);
        }
    }

    private static void dins() {
        WeWereIn x = Check.street(V + "d3,1,4,1,5;");
        int[] due = {3, 1, 4, 1, 5, 3, 1, 4, 1, 5, 3, 1};
        for (int hour = 0; hour < 12; hour++) {
            Check.due("din " + hour, x.din(hour), due[hour]);
        }
        Check.due("din 12", x.din(12), Check.OUTSIDE);
        for (int far : Check.FAR) {
            Check.due("din " + far, x.din(far), Check.OUTSIDE);
        }
        Check.tell(x, V + "d1,2,3,4,5,6,7,8,9,0,1,2;");
        Check.due("din 11 of 12", x.din(11), 2);
        Check.tell(x, V + "d7;");
        Check.due("din 0 of one", x.din(0), 7);
        Check.due("din 11 of one", x.din(11), 7);
        Check.tell(x, V);
        Check.due("din untold", x.din(3), 0);
    }
}
