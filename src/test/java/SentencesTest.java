/** The sentences that name no bound, in the document's order: those that the tests of bounds leave. */
public final class SentencesTest {
    /** At yards 10, 20, 30; stop 0 is always in, 1 and 2 never; 0 takes in two for 1. */
    private static final String THREE = "v7 2 3;s10 4095 5;s20 0 9;s30 0 9;d1,4;n1 0 2;";

    public static void main(String[] args) {
        numbersFromZero();
        setsAreBits();
        constants();
        orderOfRefusals();
        clauses();
        aWordIsOneLetter();
        aRound();
        alsoIfHeDoesNotRing();
        whatStopsAre();
        fetchedAndOrdered();
        whatIsCounted();
        comesHomeOutcome();
        bestWay();
        pretendsAndLocker();
        seen();
        bearsAndShares();
        heard();
        byDraws();
        undone();
        aNewObject();
        theTextIsEmptyThen();
        told();
        stop();
        keep();
        Check.end();
    }

    // ---- the Terms

    private static void numbersFromZero() {
        Check.says("What has a number has it from 0 on, as it comes");
        WeWereIn x = Check.street("v1 1 1;s30 1 1;s10 2 2;s20 4 3;");
        Check.due("yard of the first", x.stop(0, 0), 30);
        Check.due("yard of the second", x.stop(1, 0), 10);
        Check.due("yard of the third", x.stop(2, 0), 20);
        Check.due("a fourth", x.stop(3, 0), Check.UNKNOWN);
        x.write(2, 1);
        x.write(0, 2);
        Check.due("the second entry", x.judge(), 1);
        Check.tell(x, "x");
        Check.due("the first letter", x.fault(), 0);
    }

    private static void setsAreBits() {
        Check.says("A SET is a whole number, bit k for k");
        WeWereIn x = Check.street("v1 0 1;s0 5 9;s0 0 9;s0 1 9;n1 0 1;");
        Check.due("all wait", x.told(8), 1 + 2 + 4);
        x.round(123, 0);
        Check.due("handed", x.told(9), 1 + 4);
        Check.due("left", x.told(10), 2);
        Check.due("nothing is seen: all hastes fit", x.rang(123, 0), 1 + 2 + 4 + 8);
        Check.due("in in hours 0 and 2", x.stop(0, 1), 1 + 4);
    }

    private static void constants() {
        Check.says("NONE is -1", "They are far below all that is counted: -1000000001 and on", "BILLION is 1000000000");
        Check.due("NONE", WeWereIn.NONE, -1);
        Check.due("UNKNOWN", WeWereIn.UNKNOWN, -1000000001);
        Check.due("OUTSIDE", WeWereIn.OUTSIDE, WeWereIn.UNKNOWN - 1);
        Check.due("NOT", WeWereIn.NOT, WeWereIn.UNKNOWN - 2);
        Check.due("FULL", WeWereIn.FULL, WeWereIn.UNKNOWN - 3);
        Check.due("heard for certain", new WeWereIn().heard(1, 100), 1000000000);
    }

    private static void orderOfRefusals() {
        Check.says("REFUSALS, of several the first in this order: UNKNOWN", "OUTSIDE (another number out of its bounds), NOT (not now, as told), FULL");
        WeWereIn x = Check.street("v1 0 1;s0 1 9;");
        Check.due("no such stop, no such kind", x.stop(1, 7), Check.UNKNOWN);
        Check.due("no such way, no such haste", x.outcome(2, 4), Check.UNKNOWN);
        Check.due("no such second way, no such minutes", x.bath(0, 1, 2, 0), Check.UNKNOWN);
        WeWereIn none = new WeWereIn();
        Check.due("without stops: no such haste", none.outcome(1, 4), Check.UNKNOWN);
        Check.due("without stops: too many draws", none.drift(21), Check.OUTSIDE);
        Check.due("without stops", none.drift(20), Check.NOT);
        Check.due("nothing to undo, too many", none.undo(31), Check.OUTSIDE);
        Check.due("nothing to undo", none.undo(30), Check.NOT);
        for (int i = 0; i < 20; i++) {
            x.write(0, 1);
            x.see(0, true);
        }
        Check.due("a full book, nothing such", x.write(0, 5), Check.OUTSIDE);
        Check.due("a full book, no such stop", x.write(1, 5), Check.UNKNOWN);
        Check.due("a full book", x.write(0, 4), Check.FULL);
        Check.due("enough seen, no such stop", x.see(1, true), Check.UNKNOWN);
        Check.due("enough seen", x.see(0, true), Check.FULL);
    }

    private static void clauses() {
        Check.says("letter by letter: clauses: 'v' R D Q ';'", "'s' X I B ';'", "'d' N {',' N} ';'", "'n' S T C ';'");
        WeWereIn x = Check.street("v1 2 3;s4 5 6;s7 8 9;d1,2,3;n1 0 5;");
        int[] van = {1, 2, 3, 2};
        int[] first = {4, 5, 6, 1, Check.NONE, 0, 0};
        int[] second = {7, 8, 9, 1, 0, 5, 0};
        for (int what = 0; what < van.length; what++) {
            Check.due("told " + what, x.told(what), van[what]);
        }
        for (int what = 0; what < first.length; what++) {
            Check.due("stop 0: " + what, x.stop(0, what), first[what]);
            Check.due("stop 1: " + what, x.stop(1, what), second[what]);
        }
        for (int hour = 0; hour < 12; hour++) {
            Check.due("din " + hour, x.din(hour), hour % 3 + 1);
        }
        Check.says("first, once");
        Check.bad("s1 1 1;v1 1 1;", 1, 0);
        Check.bad("v1 1 1;s1 1 1;v1 1 1;", 3, 14);
        Check.says("the depot being at 0");
        Check.due("there and back", Check.street("v1 9 1;s99 0 0;").home(1, 0), 2 * 99 * 9 + 2);
        Check.due("a stop at the depot", Check.street("v1 9 1;s0 0 0;").comes(0, 1, 0), 0);
    }

    private static void aWordIsOneLetter() {
        Check.says("a word is one letter");
        Check.bad("vs1 1 1;", 1, 1);
        Check.bad("v1 1 1;ss1 1 1;", 1, 8);
        Check.bad("V1 1 1;", 1, 0);
        Check.good("v1 1 1;s1 1 1;s 1 1 1;", 2);
    }

    private static void aRound() {
        Check.says("A ROUND from the depot at SECOND 0, in a WAY (a row of STOPS", "each at most once");
        WeWereIn x = Check.street(THREE);
        Check.due("there first", x.comes(2, 31, 0), 60);
        Check.due("then there", x.comes(0, 31, 0), 60 + 7 + 3 + 40);
        Check.due("then home", x.home(31, 0), 60 + 7 + 3 + 40 + 7 + 20);
        Check.due("one twice", x.round(313, 0), Check.UNKNOWN);
        Check.due("one twice in a row", x.home(33, 0), Check.UNKNOWN);
        Check.says("A ROUND by a WAY at HASTE h: HOME");
        Check.due("a round", x.round(31, 0), 137);
    }

    private static void alsoIfHeDoesNotRing() {
        Check.says("Else (also if he does not RING)");
        WeWereIn x = Check.street("v7 0 3;s0 1 9;s0 1 9;n1 0 1;");
        Check.due("he rings at both", x.outcome(12, 0), 22);
        Check.due("at one: left", x.outcome(12, 3), 23);
        Check.due("at one: home", x.home(12, 3), 7 + 3);
        Check.due("at the other: a slip", x.outcome(21, 3), 42);
    }

    private static void whatStopsAre() {
        Check.says("Each STOP: WAITS for a parcel (all do at first), or was HANDED, LEFT, or it lies at the DEPOT");
        WeWereIn x = Check.street(THREE);
        Check.due("at first", x.told(8), 7);
        x.round(12, 0);
        Check.due("then stop 0", x.stop(0, 3), 2);
        Check.due("then stop 1", x.stop(1, 3), 3);
        Check.due("then stop 2", x.stop(2, 3), 1);
        x.round(3, 0);
        Check.due("at last stop 2", x.stop(2, 3), 4);
        for (int s = 0; s < 3; s++) {
            int kinds = 0;
            for (int what = 8; what <= 11; what++) {
                kinds += (x.told(what) >> s) & 1;
            }
            Check.due("stop " + s + " is one of these", kinds, 1);
        }
    }

    private static void fetchedAndOrdered() {
        WeWereIn x = Check.street(THREE);
        x.round(123, 0);
        Check.says("FETCHED: a parcel from the DEPOT, or the neighbour, is HANDED");
        Check.due("from the neighbour", x.fetch(1), 1);
        Check.due("from the neighbour: it is", x.stop(1, 3), 2);
        Check.due("he has taken it in all the same", x.stop(1, 6), 1);
        Check.due("from the depot", x.fetch(2), 0);
        Check.due("from the depot: it is", x.stop(2, 3), 2);
        Check.says("ORDERED: one that was HANDED WAITS again");
        for (int s = 0; s < 3; s++) {
            Check.due("order " + s, x.order(s), 1);
            Check.due("order " + s + ": it is", x.stop(s, 3), 1);
            Check.due("order " + s + " again", x.order(s), Check.NOT);
        }
    }

    private static void whatIsCounted() {
        Check.says("ROUNDS, SECONDS of all, SLIPS are counted");
        WeWereIn x = Check.street(THREE);
        int seconds = x.round(123, 0);
        Check.due("one round", Check.state(x), "2/0 3/1 4/0 1 " + seconds + " 1");
        seconds += x.round(3, 0);
        Check.due("two rounds", Check.state(x), "2/0 3/1 4/0 2 " + seconds + " 2");
        seconds += x.round(12, 3);
        Check.due("passing by", Check.state(x), "2/0 3/1 4/0 3 " + seconds + " 2");
    }

    private static void comesHomeOutcome() {
        Check.says("COMES to a STOP, by a WAY and HASTE", "HOME: SECOND at which he is back", "OUTCOME of it: what each STOP then is");
        WeWereIn x = Check.street(THREE);
        Check.due("comes", x.comes(2, 123, 3), 20 + 7 + 20 + 3 + 20);
        int home = x.home(123, 3);
        int outcome = x.outcome(123, 3);
        Check.due("as it then comes", x.round(123, 3), home);
        Check.due("as they then are", x.stop(0, 3) * 100 + x.stop(1, 3) * 10 + x.stop(2, 3), outcome);
    }

    private static void bestWay() {
        Check.says("BEST WAY for HASTE h", "WAY; how many are HANDED; HOME");
        WeWereIn x = Check.street("v7 2 3;s10 1 5;s20 1 5;s30 0 5;");
        Check.due("way", x.bestWay(0, 0), 123);
        Check.due("handed", x.bestWay(0, 1), 2);
        Check.due("home", x.bestWay(0, 2), x.home(123, 0));
        x.round(1, 0);
        Check.due("one was handed ahead: way", x.bestWay(0, 0), 23);
        Check.due("one was handed ahead: by that way", x.bestWay(0, 1), 1);
        Check.due("one was handed ahead: home", x.bestWay(0, 2), x.home(23, 0));
    }

    private static void pretendsAndLocker() {
        Check.says("PRETENDS: by how many SECONDS HOME is sooner by HASTE h than by 0, by a WAY; COSTS: how many fewer are HANDED by that, and 100");
        WeWereIn x = Check.street("v7 2 3;s10 1 5;s20 1 5;");
        Check.due("pretends", x.pretends(12, 3, 0), x.home(12, 0) - x.home(12, 3));
        Check.due("pretends: seconds", x.pretends(12, 3, 0), 4);
        Check.due("costs", x.pretends(12, 3, 1), 101);
        Check.says("LOCKER: with a box at yard y", "of like ones the least; how many");
        x = Check.street(THREE);
        Check.due("a box for one", x.locker(123, 5, 0), 25);
        Check.due("a box for one: how many", x.locker(123, 5, 1), 1);
    }

    private static void seen() {
        Check.says("on a DAY he drove a WAY (the same for all that is SEEN)", "ASK: the STOP by whose SLIP these are told apart best");
        WeWereIn x = Check.street("v1 0 1;s0 1 9;s0 1 9;s0 1 9;s0 1 9;");
        x.see(1, true);
        Check.due("by 1234 he skips the second", x.rang(1234, 0), 8);
        Check.due("by 2134 he never skips stop 1", x.rang(2134, 0), 0);
        Check.due("by 1324 he skips the third", x.rang(1324, 0), 4);
        x.tear();
        Check.due("stop 3 parts two from two", x.rang(1234, 1), 3);
        Check.due("where it is the third, another does", x.rang(1243, 1), 2);
    }

    private static void bearsAndShares() {
        Check.says("BEARS: how many parcels more the neighbour of a STOP takes", "SHARES: all parcels that wait at neighbours (LEFT): the SET of STOPS whose");
        WeWereIn x = Check.street("v1 0 1;s0 1 9;s0 0 9;s0 0 9;n1 0 2;n2 0 1;");
        Check.due("at first for 1", x.bears(1), 2);
        Check.due("at first for 2", x.bears(2), 1);
        Check.due("at first", x.told(10), 0);
        x.round(123, 0);
        Check.due("one more for 1", x.bears(1), 1);
        Check.due("no more for 2", x.bears(2), 0);
        Check.due("those of 1 and 2", x.told(10), 6);
        x.fetch(1);
        Check.due("that of 2", x.told(10), 4);
        x.thank(1);
        Check.due("thanked for 1", x.bears(1), 2);
        Check.due("not thanked for 2", x.bears(2), 0);
    }

    private static void heard() {
        Check.says("HEARD: odds that one is heard at least once in n RINGS", "HEARD. OUTSIDE");
        WeWereIn x = new WeWereIn();
        Check.due("no ring", x.heard(0, 100), 0);
        Check.due("a half", x.heard(1, 50), 500000000);
        Check.due("a half of a half", x.heard(2, 50), 750000000);
        Check.due("cut each time", x.heard(60, 1), 1000000000 - cut(60, 99));
        Check.due("too many", x.heard(61, 1), Check.OUTSIDE);
        Check.due("too sure", x.heard(1, 101), Check.OUTSIDE);
    }

    private static int cut(int times, int ofHundred) {
        long rest = 1000000000;
        for (int i = 0; i < times; i++) {
            rest = rest * ofHundred / 100;
        }
        return (int) rest;
    }

    private static void byDraws() {
        Check.says("BY DRAWS: THE SEED (0 at first", "n ROUNDS, if there are STOPS: ahead of each a DRAW of STOPS");
        WeWereIn x = Check.street("v1 0 1;s0 1 9;s0 1 9;s0 1 9;");
        WeWereIn twin = Check.street("v1 0 1;s0 1 9;s0 1 9;s0 1 9;");
        long seed = 0;
        int seconds = 0;
        for (int i = 0; i < 20; i++) {
            seed = (seed * 1103515245L + 12345) % (1L << 31);
            twin.order((int) (seed / 65536 % 3));
            seed = (seed * 1103515245L + 12345) % (1L << 31);
            seconds += twin.round(123, (int) (seed / 65536 % 4));
            Check.due("draw " + i, x.drift(1), seconds);
            Check.due("draw " + i + ": all is", Check.state(x), Check.state(twin));
        }
        Check.due("the seed", x.seed(0), (int) seed);
    }

    private static void undone() {
        Check.says("what STOPS are, what neighbours took, ROUNDS, SECONDS, SLIPS are as ahead of them; THE SEED stays");
        WeWereIn x = Check.street(THREE);
        String[] ahead = new String[6];
        ahead[0] = Check.state(x);
        x.round(123, 0);
        ahead[1] = Check.state(x);
        x.fetch(1);
        ahead[2] = Check.state(x);
        x.order(1);
        ahead[3] = Check.state(x);
        x.thank(1);
        ahead[4] = Check.state(x);
        x.drift(1);
        ahead[5] = Check.state(x);
        x.drift(1);
        x.seed(77);
        for (int i = 5; i >= 0; i--) {
            x.undo(1);
            Check.due("ahead of deed " + i, Check.state(x), ahead[i]);
        }
        Check.due("the seed", x.seed(0), 77);
    }

    // ---- the promises

    private static void aNewObject() {
        Check.says("`WeWereIn()`: No STREET.");
        WeWereIn x = new WeWereIn();
        for (int what = 0; what <= 14; what++) {
            Check.due("told " + what, x.told(what), 0);
        }
        Check.due("fault", x.fault(), Check.NONE);
        Check.due("stop", x.stop(0, 0), Check.UNKNOWN);
        Check.due("din", x.din(11), 0);
        Check.due("best way", x.bestWay(0, 0), Check.NONE);
        Check.due("judge", x.judge(), Check.NONE);
        Check.due("tear", x.tear(), 0);
        Check.due("seed", x.seed(1), 0);
        Check.due("image", x.goBack(0), Check.NOT);
    }

    private static void theTextIsEmptyThen() {
        Check.says("THE TEXT (it is empty then, with a FAULT, too) becomes THE STREET", "how many STOPS");
        WeWereIn x = new WeWereIn();
        Check.due("two stops", Check.tell(x, "v1 1 1;s1 1 1;s2 2 2;"), 2);
        Check.due("then the text", x.told(4), 0);
        Check.due("a fault", Check.tell(x, "v1 1 1;s1"), -11);
        Check.due("then the text, too", x.told(4), 0);
        Check.due("a new letter is its first", x.feed('v'), 1);
    }

    private static void told() {
        Check.says("4 letters of THE TEXT, 5 ROUNDS, 6 SECONDS of all, 7 SLIPS of all, 8 which WAIT, 9 were HANDED, 10 LEFT, "
            + "11 lie at the DEPOT (SETS), 12 what was SEEN, 13 entries of THE BOOK, 14 how many can be undone");
        WeWereIn x = Check.street("v7 2 3;s10 4095 5;s20 0 9;s30 0 9;s40 1 1;n1 0 2;");
        x.round(123, 0);
        x.round(3, 0);
        x.write(0, 1);
        x.write(0, 2);
        x.see(0, true);
        Check.feed(x, "v12");
        int[] due = {7, 2, 3, 4, 3, 2, 147 + 130, 2, 8, 1, 2, 4, 1, 2, 2};
        for (int what = 0; what < due.length; what++) {
            Check.due("told " + what, x.told(what), due[what]);
        }
    }

    private static void stop() {
        Check.says("3 what it is (1 .. 4), 4 its neighbour T (NONE), 5 C (0), 6 how many that one took in for it since he was thanked");
        WeWereIn x = Check.street(THREE);
        x.round(12, 0);
        Check.due("what it is", x.stop(1, 3), 3);
        Check.due("its neighbour", x.stop(1, 4), 0);
        Check.due("no neighbour", x.stop(0, 4), Check.NONE);
        Check.due("C", x.stop(1, 5), 2);
        Check.due("no C", x.stop(0, 5), 0);
        Check.due("took in", x.stop(1, 6), 1);
        x.thank(1);
        Check.due("took in since", x.stop(1, 6), 0);
        Check.due("it is left all the same", x.stop(1, 3), 3);
    }

    private static void keep() {
        Check.says("IMAGE i becomes what is so (nothing can be undone then): 1. UNKNOWN");
        WeWereIn x = Check.street(THREE);
        x.round(1, 0);
        x.seed(5);
        Check.due("an undoable deed", x.told(14), 1);
        Check.due("keep", x.keep(1), 1);
        Check.due("none then", x.told(14), 0);
        Check.due("undo", x.undo(1), Check.NOT);
        String kept = Check.state(x);
        x.round(23, 0);
        x.seed(6);
        Check.due("no such image", x.keep(2), Check.UNKNOWN);
        Check.due("a deed since", x.told(14), 1);
        Check.due("back", x.goBack(1), 1);
        Check.due("as it was", Check.state(x), kept);
        Check.due("the seed as it was", x.seed(0), 5);
        Check.due("the other image", x.goBack(0), Check.NOT);
    }
}
