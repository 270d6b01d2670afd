import java.util.ArrayList;
import java.util.List;
import java.util.function.IntFunction;
import java.util.function.Supplier;
import java.util.function.ToIntFunction;

/**
 * The order of the REFUSALS, that what is refused changes nothing, and that what is asked or tried changes nothing:
 * each by a twin that lived the same and was not asked.
 */
public final class RefusalsTest {
    private static final int[] NO_STOPS = {-1, 4, 5, 7, Integer.MIN_VALUE, Integer.MAX_VALUE};
    private static final int[] NO_WAYS = {0, -1, 5, 8, 9, 10, 11, 40, 44, 45, 101, 1231, 12345, 1234567, Integer.MIN_VALUE, Integer.MAX_VALUE};
    private static final int[] NO_HASTES = {-1, 4, 5, Integer.MIN_VALUE, Integer.MAX_VALUE};

    public static void main(String[] args) {
        letters();
        questions();
        deeds();
        deedsNotNow();
        withoutStops();
        waysThatAreNone();
        triedOutOfBounds();
        triedChangesNothing();
        seenAndBook();
        images();
        Check.end();
    }

    /** Stop 0 waits, 1 is left, 2 was handed, 3 lies at the depot; image 0 is kept, three deeds since; a text in hand. */
    private static WeWereIn lived() {
        WeWereIn x = Check.street("v10 2 3;s5 4095 5;s15 4095 0;s25 0 9;s35 1 9;d1,2;n1 0 1;n2 0 2;");
        x.seed(5);
        x.drift(2);
        x.keep(0);
        x.goBack(0);
        x.order(0);
        x.order(3);
        x.fetch(1);
        x.fetch(2);
        x.order(1);
        x.order(2);
        x.thank(1);
        x.thank(2);
        x.keep(0);
        x.seed(77);
        x.round(1234, 1);
        x.fetch(2);
        x.order(0);
        x.see(3, true);
        x.see(0, false);
        x.write(0, 1);
        x.write(2, 2);
        x.write(3, 1);
        Check.tell(x, "v1 0 1;s");
        Check.feed(x, "v9 8 7;s6 5 4;s");
        return x;
    }

    /** Both kept: the second too. */
    private static WeWereIn livedWithBoth() {
        WeWereIn x = lived();
        x.keep(1);
        x.round(2, 2);
        x.thank(2);
        return x;
    }

    private static void refused(String name, ToIntFunction<WeWereIn> call, int refusal) {
        Check.unchanged(name, RefusalsTest::lived, call, refusal);
        Check.unchanged(name + ", both images", RefusalsTest::livedWithBoth, call, refusal);
    }

    private static Supplier<WeWereIn> with(ToIntFunction<WeWereIn> more, int times) {
        return () -> {
            WeWereIn x = lived();
            for (int i = 0; i < times; i++) {
                more.applyAsInt(x);
            }
            return x;
        };
    }

    private static void letters() {
        Check.says("OUTSIDE, FULL (240)");
        Check.due("what it is", Check.state(lived()), "1/0 3/1 2/1 4/0 3 518 2");
        for (int letter : new int[] {-1, 256, 256 + 'v', Integer.MIN_VALUE, Integer.MAX_VALUE}) {
            refused("feed " + letter, x -> x.feed(letter), Check.OUTSIDE);
        }
        // behind 240 letters few of the 512 calls are left: a life would be too long
        for (int letter : new int[] {' ', ';', 0, 255}) {
            Check.unchanged("feed a 241st", () -> fed(240), x -> x.feed(letter), Check.FULL);
        }
        for (int letter : new int[] {-1, 256}) {
            Check.unchanged("outside ahead of full", () -> fed(240), x -> x.feed(letter), Check.OUTSIDE);
        }
        Check.due("feed a 240th", fed(239).feed(' '), 240);
    }

    private static WeWereIn fed(int letters) {
        WeWereIn x = new WeWereIn();
        Check.feed(x, "v1 0 1;s0 0 0;" + " ".repeat(letters - 14));
        return x;
    }

    private static void questions() {
        Check.says("What is refused changes nothing");
        for (int what : new int[] {-1, 15, Integer.MIN_VALUE, Integer.MAX_VALUE}) {
            refused("told " + what, x -> x.told(what), Check.OUTSIDE);
        }
        for (int what : new int[] {-1, 7, Integer.MIN_VALUE, Integer.MAX_VALUE}) {
            refused("stop 0 " + what, x -> x.stop(0, what), Check.OUTSIDE);
        }
        for (int hour : new int[] {-1, 12, Integer.MIN_VALUE, Integer.MAX_VALUE}) {
            refused("din " + hour, x -> x.din(hour), Check.OUTSIDE);
        }
        for (int s : NO_STOPS) {
            refused("stop " + s, x -> x.stop(s, 3), Check.UNKNOWN);
            refused("stop " + s + ", unknown ahead of outside", x -> x.stop(s, 7), Check.UNKNOWN);
            refused("bears " + s, x -> x.bears(s), Check.UNKNOWN);
        }
        for (int n : new int[] {-1, 61}) {
            refused("heard " + n, x -> x.heard(n, 50), Check.OUTSIDE);
        }
        for (int q : new int[] {-1, 101}) {
            refused("heard by " + q, x -> x.heard(1, q), Check.OUTSIDE);
        }
    }

    private static void deeds() {
        Check.says("What is refused changes nothing");
        for (int s : NO_STOPS) {
            refused("fetch " + s, x -> x.fetch(s), Check.UNKNOWN);
            refused("order " + s, x -> x.order(s), Check.UNKNOWN);
            refused("thank " + s, x -> x.thank(s), Check.UNKNOWN);
        }
        for (int h : NO_HASTES) {
            refused("round at haste " + h, x -> x.round(1234, h), Check.OUTSIDE);
            refused("round at haste " + h + ", unknown ahead of outside", x -> x.round(5, h), Check.UNKNOWN);
        }
        for (int n : new int[] {0, -1, 21, Integer.MIN_VALUE, Integer.MAX_VALUE}) {
            refused("drift " + n, x -> x.drift(n), Check.OUTSIDE);
        }
        for (int n : new int[] {0, -1, 31, Integer.MIN_VALUE, Integer.MAX_VALUE}) {
            refused("undo " + n + ", outside ahead of not", x -> x.undo(n), Check.OUTSIDE);
        }
    }

    private static void deedsNotNow() {
        Check.says("NOT: it lies at neither");
        refused("fetch what waits", x -> x.fetch(0), Check.NOT);
        refused("fetch what was handed", x -> x.fetch(2), Check.NOT);
        Check.says("NOT: it was not HANDED");
        refused("order what waits", x -> x.order(0), Check.NOT);
        refused("order what is left", x -> x.order(1), Check.NOT);
        refused("order what lies at the depot", x -> x.order(3), Check.NOT);
        Check.says("NOT: it has no neighbour");
        refused("thank for 0", x -> x.thank(0), Check.NOT);
        refused("thank for 3", x -> x.thank(3), Check.NOT);
        Check.says("NOT: not so many");
        Check.unchanged("undo 4 of 3", RefusalsTest::lived, x -> x.undo(4), Check.NOT);
        Check.unchanged("undo 30 of 3", RefusalsTest::lived, x -> x.undo(30), Check.NOT);
        Check.due("undo 3 of 3", lived().undo(3), 2);
    }

    private static WeWereIn vanAlone() {
        WeWereIn x = lived();
        x.street();
        Check.tell(x, "v3 4 5;d1;");
        x.keep(1);
        return x;
    }

    private static void withoutStops() {
        Check.says("NOT: no STOPS");
        List<Supplier<WeWereIn>> makers = List.of(WeWereIn::new, RefusalsTest::vanAlone);
        for (Supplier<WeWereIn> maker : makers) {
            for (int n : new int[] {1, 20}) {
                Check.unchanged("drift " + n + " without stops", maker, x -> x.drift(n), Check.NOT);
            }
            for (int n : new int[] {0, 21}) {
                Check.unchanged("drift " + n + ", outside ahead of not", maker, x -> x.drift(n), Check.OUTSIDE);
            }
            Check.unchanged("undo without deeds", maker, x -> x.undo(1), Check.NOT);
            Check.unchanged("undo without deeds, outside ahead of not", maker, x -> x.undo(31), Check.OUTSIDE);
            Check.unchanged("go back to 0", maker, x -> x.goBack(0), Check.NOT);
            Check.unchanged("fetch without stops", maker, x -> x.fetch(0), Check.UNKNOWN);
            Check.unchanged("order without stops", maker, x -> x.order(0), Check.UNKNOWN);
            Check.unchanged("thank without stops", maker, x -> x.thank(0), Check.UNKNOWN);
            Check.unchanged("see without stops", maker, x -> x.see(0, true), Check.UNKNOWN);
            Check.unchanged("write without stops", maker, x -> x.write(0, 1), Check.UNKNOWN);
            Check.unchanged("bears without stops", maker, x -> x.bears(0), Check.UNKNOWN);
            Check.unchanged("stop without stops", maker, x -> x.stop(0, 0), Check.UNKNOWN);
            Check.unchanged("round without stops", maker, x -> x.round(1, 0), Check.UNKNOWN);
        }
    }

    /** A call that takes a WAY; the other numbers are within their bounds, or one of them is not. */
    private record ByWay(String name, IntFunction<ToIntFunction<WeWereIn>> call) {
    }

    private static List<ByWay> callsByWay() {
        List<ByWay> calls = new ArrayList<>();
        calls.add(new ByWay("round", way -> x -> x.round(way, 0)));
        calls.add(new ByWay("round, outside", way -> x -> x.round(way, 4)));
        calls.add(new ByWay("comes", way -> x -> x.comes(0, way, 0)));
        calls.add(new ByWay("comes, outside", way -> x -> x.comes(0, way, -1)));
        calls.add(new ByWay("home", way -> x -> x.home(way, 3)));
        calls.add(new ByWay("home, outside", way -> x -> x.home(way, 4)));
        calls.add(new ByWay("outcome", way -> x -> x.outcome(way, 0)));
        calls.add(new ByWay("outcome, outside", way -> x -> x.outcome(way, 4)));
        calls.add(new ByWay("bath a", way -> x -> x.bath(0, way, 1, 1)));
        calls.add(new ByWay("bath b", way -> x -> x.bath(0, 1, way, 1)));
        calls.add(new ByWay("bath a, outside", way -> x -> x.bath(0, way, 1, 0)));
        calls.add(new ByWay("bath b, outside", way -> x -> x.bath(0, 1, way, 100)));
        calls.add(new ByWay("pretends", way -> x -> x.pretends(way, 0, 0)));
        calls.add(new ByWay("pretends, outside", way -> x -> x.pretends(way, 4, 0)));
        calls.add(new ByWay("pretends, what outside", way -> x -> x.pretends(way, 0, 2)));
        calls.add(new ByWay("locker", way -> x -> x.locker(way, 0, 0)));
        calls.add(new ByWay("locker, outside", way -> x -> x.locker(way, 100, 0)));
        calls.add(new ByWay("locker, what outside", way -> x -> x.locker(way, 0, 2)));
        calls.add(new ByWay("rang", way -> x -> x.rang(way, 0)));
        calls.add(new ByWay("rang, outside", way -> x -> x.rang(way, 2)));
        return calls;
    }

    private static void waysThatAreNone() {
        Check.says("UNKNOWN (a WAY with other figures, one twice, none at all)");
        for (ByWay by : callsByWay()) {
            for (int way : NO_WAYS) {
                refused(by.name() + " by " + way, by.call().apply(way), Check.UNKNOWN);
            }
            WeWereIn x = lived();
            for (int way : new int[] {1, 4, 14, 41, 1234, 4321, 2413}) {
                boolean outside = by.name().contains("outside");
                Check.due(by.name() + " by " + way, by.call().apply(way).applyAsInt(x) == Check.UNKNOWN, false);
                Check.due(by.name() + " by " + way, by.call().apply(way).applyAsInt(x) == Check.OUTSIDE, outside);
            }
        }
    }

    private static void triedOutOfBounds() {
        Check.says("What is refused changes nothing");
        for (int s : NO_STOPS) {
            refused("comes to " + s, x -> x.comes(s, 1, 0), Check.UNKNOWN);
            refused("comes to " + s + ", unknown ahead of outside", x -> x.comes(s, 1, 4), Check.UNKNOWN);
            refused("bath at " + s, x -> x.bath(s, 1, 1, 1), Check.UNKNOWN);
            refused("bath at " + s + ", unknown ahead of outside", x -> x.bath(s, 1, 1, 0), Check.UNKNOWN);
        }
        for (int h : NO_HASTES) {
            refused("comes at haste " + h, x -> x.comes(0, 1, h), Check.OUTSIDE);
            refused("home at haste " + h, x -> x.home(1, h), Check.OUTSIDE);
            refused("outcome at haste " + h, x -> x.outcome(1, h), Check.OUTSIDE);
            refused("best way at haste " + h, x -> x.bestWay(h, 0), Check.OUTSIDE);
            refused("best way, what " + h, x -> x.bestWay(0, h == 4 ? 3 : h), Check.OUTSIDE);
            refused("pretends at haste " + h, x -> x.pretends(1, h, 0), Check.OUTSIDE);
            refused("pretends, what " + h, x -> x.pretends(1, 0, h == 4 ? 2 : h), Check.OUTSIDE);
            refused("locker, what " + h, x -> x.locker(1, 0, h == 4 ? 2 : h), Check.OUTSIDE);
            refused("locker, d " + h, x -> x.locker(1, h == 4 || h == 5 ? 96 + h : h, 0), Check.OUTSIDE);
            refused("bath of " + h, x -> x.bath(0, 1, 1, h == 4 || h == 5 ? 96 + h : h), Check.OUTSIDE);
            refused("rang, what " + h, x -> x.rang(1, h == 4 ? 2 : h), Check.OUTSIDE);
        }
        refused("bath of 0", x -> x.bath(0, 1, 1, 0), Check.OUTSIDE);
    }

    private static void triedChangesNothing() {
        Check.says("TRIED from now; nothing changes by it");
        List<ToIntFunction<WeWereIn>> calls = new ArrayList<>();
        for (int h = 0; h <= 3; h++) {
            int haste = h;
            calls.add(x -> x.comes(3, 4321, haste));
            calls.add(x -> x.home(4321, haste));
            calls.add(x -> x.outcome(4321, haste));
            calls.add(x -> x.pretends(4321, haste, 0));
            calls.add(x -> x.pretends(4321, haste, 1));
            calls.add(x -> x.bestWay(haste, haste % 3));
        }
        for (int w = 0; w <= 1; w++) {
            int what = w;
            calls.add(x -> x.bath(0, 4321, 1234, 60 + what));
            calls.add(x -> x.locker(4321, 20, what));
            calls.add(x -> x.rang(4321, what));
            calls.add(x -> x.bears(1 + what));
            calls.add(x -> x.heard(9, 10 * what));
            calls.add(x -> x.stop(what, 3));
            calls.add(x -> x.told(14));
            calls.add(x -> x.din(11));
            calls.add(x -> x.judge());
            calls.add(x -> x.fault());
        }
        for (int i = 0; i < calls.size(); i++) {
            int answer = calls.get(i).applyAsInt(lived());
            Check.due("tried " + i + " is not refused", answer > Check.UNKNOWN, true);
            Check.unchanged("tried " + i, RefusalsTest::lived, calls.get(i), answer);
            WeWereIn x = lived();
            calls.get(i).applyAsInt(x);
            Check.due("tried " + i + " again", calls.get(i).applyAsInt(x), answer);
        }
    }

    private static void seenAndBook() {
        Check.says("What is refused changes nothing");
        for (int s : NO_STOPS) {
            refused("see " + s, x -> x.see(s, true), Check.UNKNOWN);
            refused("write of " + s, x -> x.write(s, 1), Check.UNKNOWN);
            refused("write of " + s + ", unknown ahead of outside", x -> x.write(s, 5), Check.UNKNOWN);
        }
        for (int is : new int[] {0, 5, -1, Integer.MIN_VALUE, Integer.MAX_VALUE}) {
            refused("write " + is, x -> x.write(0, is), Check.OUTSIDE);
        }
        Supplier<WeWereIn> seen = with(x -> x.see(0, false), 4);
        Check.unchanged("see a seventh", seen, x -> x.see(0, true), Check.FULL);
        Check.unchanged("see a seventh, no slip", seen, x -> x.see(3, false), Check.FULL);
        Check.unchanged("see, unknown ahead of full", seen, x -> x.see(4, true), Check.UNKNOWN);
        Supplier<WeWereIn> book = with(x -> x.write(1, 3), 17);
        Check.unchanged("write a 21st", book, x -> x.write(0, 4), Check.FULL);
        Check.unchanged("write, outside ahead of full", book, x -> x.write(0, 5), Check.OUTSIDE);
        Check.unchanged("write, unknown ahead of outside and full", book, x -> x.write(4, 5), Check.UNKNOWN);
        Check.unchanged("write, unknown ahead of full", book, x -> x.write(-1, 1), Check.UNKNOWN);
    }

    private static void images() {
        Check.says("UNKNOWN, NOT: it was not kept");
        for (int i : new int[] {-1, 2, 3, Integer.MIN_VALUE, Integer.MAX_VALUE}) {
            refused("keep " + i, x -> x.keep(i), Check.UNKNOWN);
            refused("go back to " + i, x -> x.goBack(i), Check.UNKNOWN);
        }
        Check.unchanged("go back to 1, not kept", RefusalsTest::lived, x -> x.goBack(1), Check.NOT);
        Check.says("THE SEED becomes v (0 .. 2147483647): what it was. OUTSIDE");
        for (int v : new int[] {-1, -2, Integer.MIN_VALUE}) {
            refused("seed " + v, x -> x.seed(v), Check.OUTSIDE);
        }
    }
}
