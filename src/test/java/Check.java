import java.util.Objects;

/** What the tests share: a count of answers that are as due, and streets made from texts. */
final class Check {
    static final int NONE = -1, UNKNOWN = -1000000001, OUTSIDE = -1000000002, NOT = -1000000003, FULL = -1000000004;
    static final int[] FAR = {Integer.MIN_VALUE, -1000000001, -1000, -2, -1, 1000, Integer.MAX_VALUE};

    /** Stops at yards 10, 20, 90, 90; stop 0 takes in for 1, stop 2 for 3. */
    static final String FOUR = "v30 60 10;s10 4095 5;s20 1 3;s90 2 9;s90 4 5;d2,4,0;n1 0 2;n3 2 1;";

    private static int right = 0;
    private static int wrong = 0;

    private Check() {
    }

    static void due(String what, Object got, Object want) {
        if (Objects.equals(got, want)) {
            right++;
        } else {
            wrong++;
            System.out.println(what + " answered " + got + ", due is " + want);
        }
    }

    static void feed(WeWereIn x, String text) {
        for (int i = 0; i < text.length(); i++) {
            x.feed(text.charAt(i));
        }
    }

    static int tell(WeWereIn x, String text) {
        feed(x, text);
        return x.street();
    }

    static WeWereIn street(String text) {
        WeWereIn x = new WeWereIn();
        int stops = tell(x, text);
        if (stops < 0) {
            due("street of " + text, stops, "stops");
        }
        return x;
    }

    /** All that deeds can change, in one line. */
    static String state(WeWereIn x) {
        StringBuilder all = new StringBuilder();
        for (int s = 0; s < x.told(3); s++) {
            all.append(x.stop(s, 3)).append('/').append(x.stop(s, 6)).append(' ');
        }
        return all.append(x.told(5)).append(' ').append(x.told(6)).append(' ').append(x.told(7)).toString();
    }

    static void end() {
        System.out.println(right + " answers as due, " + wrong + " not");
        if (wrong != 0) {
            System.exit(1);
        }
    }
}
