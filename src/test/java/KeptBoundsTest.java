/** What is SEEN, THE BOOK, THE SEED and the IMAGES, promises 23 to 30: each sentence at its bound and on both sides of it. */
public final class KeptBoundsTest {
    /** All are in and hear; nobody takes in: a slip means that he did not ring. */
    private static final String SEVEN = "v1 1 1;s1 4095 9;s2 4095 9;s3 4095 9;s4 4095 9;s5 4095 9;s6 4095 9;s7 4095 9;";
    private static final String LIFE = "v10 2 3;s5 4095 5;s15 4095 0;s25 0 9;s35 1 9;n1 0 1;n2 0 2;";

    public static void main(String[] args) {
        sixSeen();
        seeHasBounds();
        hastesThatFit();
        notInTheWay();
        allWaiting();
        askedBest();
        askedNone();
        rangHasBounds();
        twentyEntries();
        writeHasBounds();
        firstWrong();
        torn();
        seedHasBounds();
        imagesHaveBounds();
        imagesKeep();
        imagesKeepNot();
        imagesAreGone();
        Check.end();
    }

    // ---- seen

    private static void sixSeen() {
        Check.says("SEEN (6 at most)");
        WeWereIn x = Check.street(SEVEN);
        Check.due("nothing", x.told(12), 0);
        for (int i = 1; i <= 6; i++) {
            Check.due("see " + i, x.see(3, true), i);
            Check.due("seen " + i, x.told(12), i);
        }
        Check.due("hastes 1 and 3", x.rang(1234567, 0), 10);
        Check.says("SEEN: how much. UNKNOWN, FULL (6)");
        Check.due("a seventh", x.see(1, true), Check.FULL);
        Check.due("a seventh again", x.see(3, false), Check.FULL);
        Check.due("a seventh like the others", x.see(3, true), Check.FULL);
        Check.due("six still", x.told(12), 6);
        Check.due("what was seen is the same", x.rang(1234567, 0), 10);
        Check.due("torn", x.tear(), 6);
        Check.due("room again", x.see(1, true), 1);
        Check.due("of that alone", x.rang(1234567, 0), 8);
        // the sixth counts like the first
        x.tear();
        for (int i = 0; i < 5; i++) {
            x.see(0, false);
        }
        Check.due("five say nothing", x.rang(1234567, 0), 15);
        x.see(1, true);
        Check.due("the sixth does", x.rang(1234567, 0), 8);
    }

    private static void seeHasBounds() {
        Check.says("SEEN: how much. UNKNOWN");
        for (int stops = 0; stops <= 7; stops++) {
            WeWereIn x = Check.street("v1 0 1;" + "s0 0 0;".repeat(stops));
            for (int s : new int[] {Integer.MIN_VALUE, -2, -1, stops, stops + 1, 8, Integer.MAX_VALUE}) {
                Check.due("see " + s + " of " + stops, x.see(s, true), Check.UNKNOWN);
                Check.due("see " + s + " of " + stops + ", no slip", x.see(s, false), Check.UNKNOWN);
            }
            Check.due("nothing of " + stops, x.told(12), 0);
            if (stops > 0) {
                Check.due("the first of " + stops, x.see(0, true), 1);
                Check.due("the last of " + stops, x.see(stops - 1, false), 2);
            }
        }
    }

    private static void hastesThatFit() {
        Check.says("RANG: HASTES 0 to 3 (a SET) by which all that is SEEN is so");
        int[] slips = {0, 8, 4, 10, 0, 12, 0};
        for (int s = 0; s < 7; s++) {
            for (int t = 0; t < 7; t++) {
                for (int which = 0; which < 4; which++) {
                    WeWereIn x = Check.street(SEVEN);
                    x.see(s, which % 2 == 1);
                    x.see(t, which / 2 == 1);
                    int fits = (which % 2 == 1 ? slips[s] : 15 - slips[s]) & (which / 2 == 1 ? slips[t] : 15 - slips[t]);
                    Check.due("rang by " + s + ", " + t + ", " + which, x.rang(1234567, 0), fits);
                }
            }
        }
        WeWereIn x = Check.street(SEVEN);
        Check.due("nothing seen: all", x.rang(1234567, 0), 15);
    }

    private static void notInTheWay() {
        Check.says("a STOP that is not in the WAY gets none");
        WeWereIn x = Check.street("v1 1 1;s1 0 0;s2 0 0;");
        x.see(1, false);
        Check.due("no slip, not in the way", x.rang(1, 0), 15);
        Check.due("no slip, in the way", x.rang(12, 0), 0);
        x.tear();
        x.see(1, true);
        Check.due("a slip, not in the way", x.rang(1, 0), 0);
        Check.due("a slip, in the way", x.rang(12, 0), 15);
    }

    private static void allWaiting() {
        Check.says("(all WAITING, none tired ahead)");
        // stop 1 hears; stop 2 has a neighbour who takes one
        WeWereIn x = Check.street("v1 1 1;s1 4095 9;s2 4095 9;s3 0 0;n2 0 1;");
        x.round(123, 0);
        x.fetch(2);
        x.order(2);
        Check.due("he is tired now", x.bears(2), 0);
        x.see(2, true);
        Check.due("he was not tired", x.rang(123, 0), 0);
        x.tear();
        x.see(1, true);
        Check.due("they were handed it now, they waited", x.rang(123, 0), 8);
        Check.due("nothing changes by it", Check.state(x), "2/0 2/0 1/1 1 10 0");
        Check.says("a STOP got a SLIP, or not");
        x = Check.street("v1 1 1;s1 4095 9;s2 4095 9;n1 0 1;");
        x.see(1, false);
        Check.due("left is no slip", x.rang(12, 0), 15);
        x.see(1, true);
        Check.due("left is no slip: nothing fits", x.rang(12, 0), 0);
    }

    private static void askedBest() {
        Check.says("the greatest part that is alike is least; of like ones the least");
        WeWereIn x = Check.street(SEVEN);
        // not rung at: haste 1 turn 4; haste 2 turns 3, 6; haste 3 turns 2, 4, 6
        Check.due("two and two at turn 4 and 6: the fourth", x.rang(1234567, 1), 3);
        Check.due("two and two, the least number", x.rang(7654321, 1), 1);
        Check.due("two and two, the sixth is stop 0", x.rang(2345617, 1), 0);
        Check.due("one and three alone", x.rang(123, 1), 1);
        Check.due("one and three, the least number", x.rang(321, 1), 0);
        Check.due("one and three, one turn", x.rang(12, 1), 1);
        x.see(1, false);
        Check.due("of three: two and one", x.rang(1234567, 1), 2);
        x.see(2, false);
        Check.due("of two: one and one", x.rang(1234567, 1), 3);
        x.tear();
        x.see(5, true);
        Check.due("hastes 2 and 3", x.rang(1234567, 0), 12);
        Check.due("hastes 2 and 3: the second turn", x.rang(1234567, 1), 1);
    }

    private static void askedNone() {
        Check.says("NONE: none parts them");
        WeWereIn x = Check.street(SEVEN);
        Check.due("he rings at the first by each", x.rang(1, 1), Check.NONE);
        x.see(3, false);
        x.see(5, false);
        Check.due("haste 0 alone", x.rang(1234567, 0), 1);
        Check.due("haste 0 alone: nothing to part", x.rang(1234567, 1), Check.NONE);
        x.see(3, true);
        Check.due("nothing fits", x.rang(1234567, 0), 0);
        Check.due("nothing fits: nothing to part", x.rang(1234567, 1), Check.NONE);
        WeWereIn y = Check.street("v1 1 1;s1 0 0;s2 0 0;s3 0 0;");
        Check.due("all get a slip by each", y.rang(123, 1), Check.NONE);
        Check.due("all get a slip by each: all fit", y.rang(123, 0), 15);
    }

    private static void rangHasBounds() {
        Check.says("RANG, by a WAY: what = 0 the SET, 1 ASK (NONE). UNKNOWN, OUTSIDE");
        WeWereIn x = Check.street(LIFE);
        for (int what = -3; what <= 4; what++) {
            Check.due("rang, what " + what, x.rang(1, what) == Check.OUTSIDE, what < 0 || what > 1);
            Check.due("rang, what " + what + " by no way", x.rang(5, what), Check.UNKNOWN);
        }
        for (int way : new int[] {-1, 0, 5, 10, 11, 15, 12345, Integer.MIN_VALUE, Integer.MAX_VALUE}) {
            Check.due("rang by " + way, x.rang(way, 0), Check.UNKNOWN);
            Check.due("rang by " + way + ", outside", x.rang(way, 2), Check.UNKNOWN);
        }
        for (int far : Check.FAR) {
            Check.due("rang, what " + far, x.rang(1, far), Check.OUTSIDE);
        }
    }

    // ---- the book

    private static void twentyEntries() {
        Check.says("THE BOOK (20 at most) tells what STOPS are");
        WeWereIn x = Check.street(SEVEN);
        for (int i = 1; i <= 20; i++) {
            Check.due("write " + i, x.write(i % 7, 1), i);
            Check.due("entries " + i, x.told(13), i);
        }
        Check.says("An entry behind THE BOOK: how many. UNKNOWN, OUTSIDE, FULL (20)");
        Check.due("a 21st", x.write(0, 2), Check.FULL);
        Check.due("a 21st again", x.write(6, 4), Check.FULL);
        Check.due("entries still", x.told(13), 20);
        Check.due("none of them is wrong still", x.judge(), Check.NONE);
        Check.due("torn", x.tear(), 20);
        Check.due("room again", x.write(0, 2), 1);
        Check.due("wrong", x.judge(), 0);
    }

    private static void writeHasBounds() {
        Check.says("tells what STOPS are (1 .. 4)");
        WeWereIn x = Check.street(LIFE);
        int entries = 0;
        for (int is = -2; is <= 7; is++) {
            boolean bounds = is >= 1 && is <= 4;
            entries += bounds ? 1 : 0;
            Check.due("write " + is, x.write(0, is), bounds ? entries : Check.OUTSIDE);
            Check.due("entries", x.told(13), entries);
            Check.due("write " + is + " of no stop", x.write(4, is), Check.UNKNOWN);
        }
        for (int far : Check.FAR) {
            Check.due("write " + far, x.write(0, far), Check.OUTSIDE);
            Check.due("write of " + far, x.write(far, 1), Check.UNKNOWN);
        }
        for (int s = -1; s <= 8; s++) {
            Check.due("write of " + s, x.write(s, 1) == Check.UNKNOWN, s < 0 || s > 3);
        }
    }

    private static void firstWrong() {
        Check.says("WRONG: the first that is otherwise now; NONE");
        for (int at = 0; at < 20; at++) {
            WeWereIn x = Check.street(LIFE);
            for (int i = 0; i < 20; i++) {
                x.write(i % 4, i == at || i == 19 ? 4 : 1);
            }
            Check.due("wrong from " + at, x.judge(), at);
            Check.due("wrong from " + at + " still", x.judge(), at);
        }
        WeWereIn x = Check.street(LIFE);
        Check.due("no book", x.judge(), Check.NONE);
        x.round(1234, 1);
        x.order(0);
        x.fetch(2);
        int[] is = {1, 3, 2, 4};
        for (int s = 0; s < 4; s++) {
            for (int said = 1; said <= 4; said++) {
                x.tear();
                x.write(s, said);
                Check.due(s + " is " + said, x.judge(), said == is[s] ? Check.NONE : 0);
            }
        }
        x.tear();
        x.write(2, 2);
        x.order(2);
        Check.due("otherwise now", x.judge(), 0);
        x.undo(1);
        Check.due("as before", x.judge(), Check.NONE);
    }

    private static void torn() {
        Check.says("Nothing SEEN, no BOOK: how much both had");
        WeWereIn x = Check.street(SEVEN);
        Check.due("none", x.tear(), 0);
        x.see(0, true);
        Check.due("one seen", x.tear(), 1);
        x.write(0, 2);
        Check.due("one entry", x.tear(), 1);
        for (int i = 0; i < 22; i++) {
            x.see(1, true);
            x.write(0, 2);
        }
        Check.due("both full", x.tear(), 26);
        Check.due("both full: seen", x.told(12), 0);
        Check.due("both full: entries", x.told(13), 0);
        Check.due("both full: rang", x.rang(1234567, 0), 15);
        Check.due("both full: judge", x.judge(), Check.NONE);
        Check.due("none again", x.tear(), 0);
        Check.due("without a street", new WeWereIn().tear(), 0);
    }

    // ---- seed and images

    private static void seedHasBounds() {
        Check.says("THE SEED becomes v (0 .. 2147483647): what it was. OUTSIDE");
        WeWereIn x = new WeWereIn();
        Check.due("0 at first", x.seed(1), 0);
        Check.due("1", x.seed(Integer.MAX_VALUE), 1);
        Check.due("-1", x.seed(-1), Check.OUTSIDE);
        Check.due("-2", x.seed(-2), Check.OUTSIDE);
        Check.due("the least", x.seed(Integer.MIN_VALUE), Check.OUTSIDE);
        Check.due("the greatest", x.seed(2147483646), Integer.MAX_VALUE);
        Check.due("one below it", x.seed(0), 2147483646);
        Check.due("0", x.seed(0), 0);
        Check.says("each DRAW it becomes it times 1103515245 and 12345, left over by 2 to the 31");
        int[] from = {0, 1, Integer.MAX_VALUE, 2147483646, 1073741824};
        for (int seed : from) {
            WeWereIn y = Check.street("v1 0 1;s0 0 0;");
            y.seed(seed);
            y.drift(1);
            long dice = seed;
            for (int i = 0; i < 2; i++) {
                dice = Math.floorMod(dice * 1103515245L + 12345L, 2147483648L);
            }
            Check.due("two draws from " + seed, y.seed(0), (int) dice);
        }
    }

    private static void imagesHaveBounds() {
        Check.says("IMAGES 0, 1 keep these, THE SEED");
        for (int i : new int[] {Integer.MIN_VALUE, -2, -1, 0, 1, 2, 3, Integer.MAX_VALUE}) {
            boolean there = i == 0 || i == 1;
            WeWereIn x = Check.street(LIFE);
            Check.due("go back to " + i + ", not kept", x.goBack(i), there ? Check.NOT : Check.UNKNOWN);
            Check.due("keep " + i, x.keep(i), there ? 1 : Check.UNKNOWN);
            Check.due("go back to " + i, x.goBack(i), there ? 1 : Check.UNKNOWN);
            Check.due("go back to 0", x.goBack(0), i == 0 ? 1 : Check.NOT);
            Check.due("go back to 1", x.goBack(1), i == 1 ? 1 : Check.NOT);
        }
        Check.says("UNKNOWN, NOT: it was not kept");
        Check.due("new: go back to 0", new WeWereIn().goBack(0), Check.NOT);
        Check.due("new: go back to 1", new WeWereIn().goBack(1), Check.NOT);
        Check.due("new: keep 0", new WeWereIn().keep(0), 1);
        Check.due("new: keep 1", new WeWereIn().keep(1), 1);
    }

    private static void imagesKeep() {
        Check.says("What is so becomes IMAGE i (nothing can be undone then): 1");
        WeWereIn x = Check.street(LIFE);
        x.seed(11);
        x.keep(0);
        String first = Check.state(x);
        x.round(1234, 1);
        x.fetch(2);
        x.order(0);
        x.seed(22);
        Check.due("three can be undone", x.told(14), 3);
        Check.due("keep 1", x.keep(1), 1);
        Check.due("nothing can be", x.told(14), 0);
        Check.due("nothing can be: undo", x.undo(1), Check.NOT);
        String second = Check.state(x);
        Check.due("what is so stays so", second, "1/0 3/1 2/1 4/0 1 179 1");
        Check.due("the seed stays so", x.seed(33), 22);
        for (int again = 0; again < 2; again++) {
            x.drift(3);
            Check.due("three rounds can be undone", x.told(14), 3);
            Check.due("go back to 0", x.goBack(0), 1);
            Check.due("as it was at 0", Check.state(x), first);
            Check.due("the seed of 0", x.seed(44), 11);
            Check.due("nothing can be undone at 0", x.undo(1), Check.NOT);
            x.thank(1);
            Check.due("go back to 1", x.goBack(1), 1);
            Check.due("as it was at 1", Check.state(x), second);
            Check.due("the seed of 1", x.seed(55), 22);
            Check.due("nothing can be undone at 1", x.told(14), 0);
        }
        Check.says("IMAGE i becomes what is so");
        x.keep(0);
        x.round(1, 0);
        x.goBack(0);
        Check.due("kept over the first", Check.state(x), second);
        Check.due("kept over the first: seed", x.seed(0), 55);
        Check.due("the other is as it was", x.goBack(1), 1);
        Check.due("the other is as it was: seed", x.seed(0), 22);
    }

    private static void imagesKeepNot() {
        Check.says("IMAGES 0, 1 keep these, THE SEED");
        WeWereIn x = Check.street(LIFE);
        x.see(0, true);
        x.write(0, 1);
        x.keep(0);
        x.see(1, true);
        x.write(1, 1);
        x.write(2, 1);
        Check.tell(x, "v");
        Check.feed(x, "v12");
        x.goBack(0);
        Check.due("what was seen since", x.told(12), 2);
        Check.due("what was written since", x.told(13), 3);
        Check.due("the text", x.told(4), 3);
        Check.due("the fault", x.fault(), 1);
        Check.due("the images stay", x.goBack(0), 1);
    }

    private static void imagesAreGone() {
        Check.says("IMAGES, what could be undone are gone");
        WeWereIn x = Check.street(LIFE);
        x.keep(0);
        x.keep(1);
        Check.tell(x, "v1 0 1;;");
        Check.due("a faulty text: image 0", x.goBack(0), 1);
        Check.due("a faulty text: image 1", x.goBack(1), 1);
        Check.tell(x, LIFE);
        Check.due("another street: image 0", x.goBack(0), Check.NOT);
        Check.due("another street: image 1", x.goBack(1), Check.NOT);
        x.keep(1);
        Check.due("kept again", x.goBack(1), 1);
        x.street();
        Check.due("no street: image 1", x.goBack(1), Check.NOT);
    }
}
