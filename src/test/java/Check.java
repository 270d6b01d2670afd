import java.io.IOException;
import java.nio.file.Files;
import java.nio.file.Path;
import java.util.Objects;
import java.util.function.Supplier;
import java.util.function.ToIntFunction;

/**
 * What the tests share: a count of answers that are as due, streets made from texts, and twins: objects that
 * lived the same, of which one alone is asked. No test asks an object more than 512 times: what it answers
 * beyond that is free.
 */
final class Check {
    static final int NONE = -1, UNKNOWN = -1000000001, OUTSIDE = -1000000002, NOT = -1000000003, FULL = -1000000004;
    static final int[] FAR = {Integer.MIN_VALUE, -1000000001, -1000, -2, -1, 1000, Integer.MAX_VALUE};

    /** Stops at yards 10, 20, 90, 90; stop 0 takes in for 1, stop 2 for 3. */
    static final String FOUR = "v30 60 10;s10 4095 5;s20 1 3;s90 2 9;s90 4 5;d2,4,0;n1 0 2;n3 2 1;";

    private static int right = 0;
    private static int wrong = 0;
    private static String sentence = "";
    private static String document = null;

    private Check() {
    }

    /** The document's own words, which the answers from here on are about; they must stand in it just so. */
    static void says(String... words) {
        sentence = "'" + String.join("', '", words) + "': ";
        for (String part : words) {
            due("whether the document says so", theDocument().contains(part), true);
        }
    }

    private static String theDocument() {
        if (document == null) {
            try {
                document = Files.readString(Path.of("../shared/DOC.md"));
            } catch (IOException e) {
                document = "";
            }
        }
        return document;
    }

    static void due(String what, Object got, Object want) {
        if (Objects.equals(got, want)) {
            right++;
        } else {
            wrong++;
            System.out.println(sentence + what + " answered " + got + ", due is " + want);
        }
    }

    static void feed(WeWereIn x, String text) {
        for (int i = 0; i < text.length(); i++) {
            x.feed(text.charAt(i));
        }
    }

    static int tell(WeWereIn x, String text) {
        feed(x, text);
        return x.street();
    }

    static WeWereIn street(String text) {
        WeWereIn x = new WeWereIn();
        int stops = tell(x, text);
        if (stops < 0) {
            due("street of " + text, stops, "stops");
        }
        return x;
    }

    /** A text without a fault. */
    static void good(String text, int stops) {
        WeWereIn x = new WeWereIn();
        due("street of '" + text + "'", tell(x, text), stops);
        due("fault of '" + text + "'", x.fault(), NONE);
        due("stops of '" + text + "'", x.told(3), stops);
    }

    /** A text with this fault, at this letter. */
    static void bad(String text, int number, int at) {
        WeWereIn x = new WeWereIn();
        due("street of '" + text + "'", tell(x, text), -10 - number);
        due("fault of '" + text + "'", x.fault(), at);
        due("letters behind '" + text + "'", x.told(4), 0);
        due("R behind '" + text + "'", x.told(0), 0);
    }

    /** All that deeds can change, in one line. */
    static String state(WeWereIn x) {
        StringBuilder all = new StringBuilder();
        int stops = x.told(3);
        for (int s = 0; s < stops; s++) {
            all.append(x.stop(s, 3)).append('/').append(x.stop(s, 6)).append(' ');
        }
        return all.append(x.told(5)).append(' ').append(x.told(6)).append(' ').append(x.told(7)).toString();
    }

    /** All that can be asked without a change. */
    static String everything(WeWereIn x) {
        StringBuilder all = new StringBuilder("fault ").append(x.fault()).append(" told");
        int way = 0;
        int stops = x.told(3);
        for (int what = 0; what <= 14; what++) {
            all.append(' ').append(x.told(what));
        }
        for (int s = 0; s < stops; s++) {
            way = way * 10 + s + 1;
            for (int what = 0; what <= 6; what++) {
                all.append(what == 0 ? " stop " : "/").append(x.stop(s, what));
            }
        }
        for (int hour = 0; hour <= 11; hour++) {
            all.append(hour == 0 ? " din " : ",").append(x.din(hour));
        }
        all.append(" rang ").append(x.rang(way, 0)).append(' ').append(x.rang(way, 1));
        return all.append(" judge ").append(x.judge()).toString();
    }

    /** What only later calls show: the seed, what can be undone, the images, the text. It is used up by that. */
    static String hidden(WeWereIn x) {
        StringBuilder all = new StringBuilder("seed ").append(x.seed(1));
        int deeds = x.told(14);
        for (int i = 0; i < deeds; i++) {
            all.append(" undo ").append(x.undo(1)).append(": ").append(state(x));
        }
        for (int i = 0; i < 2; i++) {
            all.append(" image ").append(x.goBack(i)).append(": ").append(state(x)).append(" seed ").append(x.seed(1));
        }
        all.append(" judge ").append(x.judge()).append(" tear ").append(x.tear());
        return all.append(" street ").append(x.street()).append(" fault ").append(x.fault()).toString();
    }

    /** The call answers this, and the object is then as its twin that was not asked. */
    static void unchanged(String name, Supplier<WeWereIn> maker, ToIntFunction<WeWereIn> call, int want) {
        WeWereIn asked = maker.get();
        WeWereIn twin = maker.get();
        due(name, call.applyAsInt(asked), want);
        due(name + ", then everything", everything(asked), everything(twin));
        due(name + ", then what is hidden", hidden(asked), hidden(twin));
    }

    static void end() {
        System.out.println(right + " answers as due, " + wrong + " not");
        if (wrong != 0) {
            System.exit(1);
        }
    }
}
