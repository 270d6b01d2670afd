import java.util.function.ToIntFunction;

/** The bounds that part 1 of the Terms names, and promises 1 to 7: each sentence at its bound and on both sides of it. */
public final class TextBoundsTest {
    private static final String V = "v1 0 1;";
    private static final String S = "s0 0 0;";
    private static final String TWO = V + S + S;
    /** Letters that can stand somewhere. */
    private static final String USED = "vsdn;,0123456789 ";

    public static void main(String[] args) {
        lettersOfTheText();
        aLetterHasBounds();
        boundsOfTheVan();
        boundsOfStops();
        sevenStops();
        boundsOfDins();
        twelveDins();
        dinsGoRound();
        boundsOfNeighbours();
        neighboursAreToldAhead();
        oneToFourFigures();
        blanks();
        sideBySide();
        theEnd();
        lettersThatAreNoWord();
        wordsOutOfPlace();
        theVanIsFirst();
        aThirteenthDin();
        notToldYet();
        tooOften();
        likeItself();
        hasANeighbour();
        theLeastOfSeveral();
        theFirstOfSeveral();
        emptyText();
        blanksAlone();
        aFaultChangesNothing();
        streetBeginsAnew();
        latestFault();
        boundsOfQuestions();
        Check.end();
    }

    // ---- how many letters

    private static void lettersOfTheText() {
        Check.says("told in a text (240 letters at most)", "OUTSIDE, FULL (240)");
        String whole = V + " ".repeat(226) + "s7 2 3;";
        for (int extra = -1; extra <= 0; extra++) {
            WeWereIn x = new WeWereIn();
            String text = extra < 0 ? whole.replaceFirst(" {2}", " ") : whole;
            Check.feed(x, text);
            Check.due("letters of " + text.length(), x.told(4), 240 + extra);
            Check.due("street of " + text.length(), x.street(), 1);
            Check.due("the last clause of " + text.length(), x.stop(0, 0), 7);
        }
        WeWereIn x = new WeWereIn();
        Check.feed(x, V + " ".repeat(227) + "s7 2 ");
        Check.due("the 240th letter", x.feed('3'), 240);
        Check.due("a 241st letter", x.feed(';'), Check.FULL);
        Check.due("letters behind it", x.told(4), 240);
        Check.due("a 241st letter again", x.feed(' '), Check.FULL);
        Check.due("it is not in the text", x.street(), -11);
        Check.due("the end is at 240", x.fault(), 240);
        Check.due("the text is empty then", x.feed('v'), 1);
        x = new WeWereIn();
        Check.feed(x, V + " ".repeat(233));
        Check.due("full of blanks", x.feed('x'), Check.FULL);
        Check.due("the letters in it stay", x.street(), 0);
        Check.due("the letters in it stay: R", x.told(0), 1);
    }

    private static void aLetterHasBounds() {
        Check.says("A letter (0 .. 255) comes behind THE TEXT: how many it has. OUTSIDE");
        WeWereIn x = new WeWereIn();
        for (int far : Check.FAR) {
            Check.due("feed " + far, x.feed(far), Check.OUTSIDE);
        }
        Check.due("feed -1", x.feed(-1), Check.OUTSIDE);
        Check.due("feed 256", x.feed(256), Check.OUTSIDE);
        Check.due("none came", x.told(4), 0);
        Check.due("feed 0", x.feed(0), 1);
        Check.due("feed 255", x.feed(255), 2);
        Check.due("feed 256 then", x.feed(256), Check.OUTSIDE);
        Check.due("two came", x.told(4), 2);
        Check.due("letter 256 + 'v' is none", x.feed(256 + 'v'), Check.OUTSIDE);
    }

    // ---- the bounds of numbers

    /** From low to high it is taken, as asked for by 'is'; one beyond each is a fault 2 at its first figure. */
    private static void bounds(String ahead, int low, int high, String behind, ToIntFunction<WeWereIn> is) {
        for (int n = low; n <= high; n++) {
            WeWereIn x = new WeWereIn();
            Check.due("street of '" + ahead + n + behind + "'", Check.tell(x, ahead + n + behind) >= 0, true);
            Check.due("the number of '" + ahead + n + behind + "'", is.applyAsInt(x), n);
        }
        if (low > 0) {
            Check.bad(ahead + (low - 1) + behind, 2, ahead.length());
        }
        for (int n : new int[] {high + 1, high + 2, 10 * high + 10, 9999}) {
            if (n > high) {
                Check.bad(ahead + n + behind, 2, ahead.length());
                Check.bad(ahead + "  " + n + behind, 2, ahead.length() + 2);
            }
        }
    }

    private static void boundsOfTheVan() {
        Check.says("a RING and waiting takes R SECONDS, 1 .. 90");
        bounds("v", 1, 90, " 0 1;", x -> x.told(0));
        Check.says("a yard D SECONDS, 0 .. 99");
        bounds("v1 ", 0, 99, " 1;", x -> x.told(1));
        Check.says("a SLIP Q SECONDS, 1 .. 30");
        bounds("v1 0 ", 1, 30, ";", x -> x.told(2));
    }

    private static void boundsOfStops() {
        Check.says("at yard X, 0 .. 99, of the street");
        bounds(V + "s", 0, 99, " 0 0;", x -> x.stop(0, 0));
        Check.says("IN in HOURS of I, 0 .. 4095, a SET of 0 to 11");
        bounds(V + "s0 ", 0, 4095, " 0;", x -> x.stop(0, 1));
        Check.says("BELL is heard if the DIN of the HOUR is below B, 0 .. 9");
        bounds(V + "s0 0 ", 0, 9, ";", x -> x.stop(0, 2));
    }

    private static void sevenStops() {
        Check.says("7 STOPS at most");
        for (int n = 0; n <= 7; n++) {
            Check.good(V + S.repeat(n), n);
        }
        Check.bad(V + S.repeat(8), 3, V.length() + 7 * S.length());
        WeWereIn x = Check.street(V + "s1 1 1;s2 2 2;s3 3 3;s4 4 4;s5 5 5;s6 6 6;s7 7 7;");
        for (int s = 0; s < 7; s++) {
            Check.due("X of " + s, x.stop(s, 0), s + 1);
            Check.due("I of " + s, x.stop(s, 1), s + 1);
            Check.due("B of " + s, x.stop(s, 2), s + 1);
        }
        Check.due("all seven", x.told(8), 127);
    }

    private static void boundsOfDins() {
        Check.says("DIN of HOURS: 1 to 12 numbers 0 .. 9");
        StringBuilder ahead = new StringBuilder(V + "d");
        for (int hour = 0; hour < 12; hour++) {
            int h = hour;
            bounds(ahead.toString(), 0, 9, ";", x -> x.din(h));
            ahead.append("0,");
        }
    }

    private static String dins(int many) {
        StringBuilder text = new StringBuilder("d");
        for (int i = 0; i < many; i++) {
            text.append(i == 0 ? "" : ",").append((i * 7 + 3) % 10);
        }
        return text.append(';').toString();
    }

    private static void twelveDins() {
        Check.says("DIN of HOURS: 1 to 12 numbers");
        Check.bad(V + "d;", 1, 8);
        Check.bad(V + "d ;", 1, 9);
        for (int many = 1; many <= 12; many++) {
            Check.good(V + dins(many), 0);
        }
        Check.bad(V + dins(13), 1, V.length() + 24);
        Check.bad(V + dins(14), 1, V.length() + 24);
    }

    private static void dinsGoRound() {
        Check.says("HOUR h has the one of h left over by how many; one 0 untold");
        for (int many = 1; many <= 12; many++) {
            WeWereIn x = Check.street(V + dins(many));
            for (int hour = 0; hour < 12; hour++) {
                Check.due("din " + hour + " of " + many, x.din(hour), (hour % many * 7 + 3) % 10);
            }
        }
        WeWereIn x = Check.street(V);
        for (int hour = 0; hour < 12; hour++) {
            Check.due("din " + hour + " untold", x.din(hour), 0);
        }
        Check.due("told once", Check.tell(x, V + dins(12)), 0);
        Check.due("told once: din 11", x.din(11), 0);
        Check.due("told once: din 10", x.din(10), 3);
        Check.tell(x, V);
        Check.due("untold again: din 10", x.din(10), 0);
    }

    private static void boundsOfNeighbours() {
        Check.says("C parcels at most till he is thanked, 1 .. 9");
        bounds(TWO + "n0 1 ", 1, 9, ";", x -> x.stop(0, 5));
        Check.says("STOP T takes in for STOP S, unlike, both told ahead");
        for (int stops = 2; stops <= 7; stops++) {
            String ahead = V + S.repeat(stops) + "n";
            for (int s = 0; s < stops; s++) {
                for (int t = 0; t < stops; t++) {
                    if (s == t) {
                        Check.bad(ahead + s + " " + t + " 1;", 4, ahead.length() + 2);
                    } else {
                        int of = s;
                        WeWereIn x = Check.street(ahead + s + " " + t + " 3;");
                        Check.due("T of " + s, x.stop(of, 4), t);
                        Check.due("T of the others", x.stop(t, 4), Check.NONE);
                        Check.due("C of the others", x.stop(t, 5), 0);
                    }
                }
                Check.bad(ahead + s + " " + stops + " 1;", 2, ahead.length() + 2);
                Check.bad(ahead + stops + " " + s + " 1;", 2, ahead.length());
            }
        }
        Check.says("each S once");
        Check.good(V + S.repeat(7) + "n0 6 1;n1 6 1;n2 6 1;n3 6 1;n4 6 1;n5 6 1;n6 0 1;", 7);
    }

    private static void neighboursAreToldAhead() {
        Check.says("both told ahead");
        Check.bad(V + "n0 1 1;" + S + S, 2, 8);
        Check.bad(V + S + "n0 1 1;" + S, 2, V.length() + S.length() + 3);
        Check.bad(V + S + "n1 0 1;" + S, 2, V.length() + S.length() + 1);
        Check.good(TWO + "n0 1 1;" + S, 3);
        Check.good(TWO + "n0 1 1;" + S + "n1 2 1;n2 0 1;", 3);
    }

    // ---- how it is written

    private static void oneToFourFigures() {
        Check.says("NUMBERS have one to four figures", "a NUMBER of five figures or more");
        String text = "v1 2 3;s4 5 6;s7 8 9;d1,2;n0 1 2;";
        for (int at = 0; at < text.length(); at++) {
            char c = text.charAt(at);
            if (c < '0' || c > '9') {
                continue;
            }
            String ahead = text.substring(0, at);
            String behind = text.substring(at);
            for (int zeros = 1; zeros <= 3; zeros++) {
                Check.good(ahead + "0".repeat(zeros) + behind, 2);
            }
            for (int zeros = 4; zeros <= 12; zeros++) {
                Check.bad(ahead + "0".repeat(zeros) + behind, 2, at);
            }
        }
        String[] numberless = {"v;", "v1;", "v1 0;", V + "s;", V + "s0;", V + "s0 0;", V + "d;", V + "d0,;", TWO + "n;", TWO + "n0;",
            TWO + "n0 1;"};
        for (String less : numberless) {
            Check.bad(less, 1, less.length() - 1);
        }
        Check.bad("v" + "0".repeat(239), 2, 1);
        Check.bad("v4294967297 0 1;", 2, 1);
        Check.bad("v18446744073709551617 0 1;", 2, 1);
        Check.good("v0090 0099 0030;s0099 4095 0009;", 1);
    }

    private static void blanks() {
        Check.says("blanks (32) may stand anywhere but within NUMBERS");
        String text = "v10 20 30;s40 50 6;s70 80 9;d1,2;n0 1 2;";
        for (int at = 0; at <= text.length(); at++) {
            boolean within = at > 0 && at < text.length() && isFigure(text.charAt(at - 1)) && isFigure(text.charAt(at));
            String with = text.substring(0, at) + " " + text.substring(at);
            if (!within) {
                Check.good(with, 2);
                Check.good(text.substring(0, at) + "     " + text.substring(at), 2);
            } else {
                Check.due("a blank within a number: '" + with + "'", Check.tell(new WeWereIn(), with) < 0, true);
            }
        }
        Check.bad("v1 0 0 1;", 2, 5);
        Check.bad("v1 0 1 0;", 1, 7);
        Check.bad(V + "s1 1 0 1;", 1, 14);
        Check.bad(V + "d1 0;", 1, 10);
        Check.good("  v  1  0  1  ;  s  0  0  0  ;  s 0 0 0 ; d  1  ,  2  ;  n  0  1  1  ;  ", 2);
        Check.says("blanks (32)");
        for (int other : new int[] {0, 9, 10, 11, 12, 13, 31, 33, 160}) {
            Check.bad((char) other + V, 1, 0);
            Check.bad("v" + (char) other + "1 0 1;", 1, 1);
            Check.bad("v1" + (char) other + "0 1;", 1, 2);
            Check.bad("v1 0 1" + (char) other + ";", 1, 6);
            Check.bad(V + (char) other, 1, 7);
        }
    }

    private static boolean isFigure(char c) {
        return c >= '0' && c <= '9';
    }

    private static void sideBySide() {
        Check.says("two NUMBERS side by side need one");
        Check.bad("v10 1;", 1, 5);
        Check.bad("v101;", 2, 1);
        Check.bad("v1 01;", 1, 5);
        Check.bad(V + "s000;", 1, 11);
        Check.bad(V + "s0 00;", 1, 12);
        Check.bad(TWO + "n00 1;", 1, TWO.length() + 5);
        Check.bad(TWO + "n0 11;", 2, TWO.length() + 3);
        Check.good("v1 0 1;s0 0 0;s0 0 0;d0,1;n0 1 1;", 2);
    }

    // ---- faults 1

    private static void theEnd() {
        Check.says("the end at the text's length");
        String text = "v1 20 3; s40 50 6;s0 0 0;d1,2,3;n0 1 9;n1 0 1;";
        int stops = 0;
        for (int end = 1; end <= text.length(); end++) {
            String part = text.substring(0, end);
            String words = part.trim();
            stops += text.charAt(end - 1) == ';' && text.lastIndexOf('s', end - 1) > text.lastIndexOf(';', end - 2) ? 1 : 0;
            if (words.endsWith(";")) {
                Check.good(part, stops);
            } else {
                Check.bad(part, 1, end);
                Check.bad(part + "   ", 1, end + 3);
            }
        }
    }

    private static void lettersThatAreNoWord() {
        Check.says("1 it cannot stand there (a letter that is no word");
        String text = "v1 2 3;s4 5 6;s7 8 9;d1,2;n0 1 2;";
        for (int letter = 0; letter < 256; letter++) {
            if (USED.indexOf(letter) >= 0) {
                continue;
            }
            for (int at = 0; at <= text.length(); at++) {
                Check.bad(text.substring(0, at) + (char) letter + text.substring(at), 1, at);
            }
        }
        for (int letter : new int[] {'V', 'S', 'D', 'N', '.', ':', '-', '+', '/', 'u', 'w', 'r', 't', 'c', 'e', 'm', 'o'}) {
            Check.bad((char) letter + "1 0 1;", 1, 0);
            Check.bad(V + (char) letter + "1 0 1;", 1, 7);
        }
        Check.bad("v-1 0 1;", 1, 1);
        Check.bad("v1 0 1;s1 -1 1;", 1, 10);
    }

    /** A letter that can stand somewhere, but not where it does. */
    private static void wordsOutOfPlace() {
        Check.says("1 it cannot stand there");
        for (char word : "vsdn;,".toCharArray()) {
            Check.bad("v" + word, 1, 1);
            Check.bad("v1 0 " + word, 1, 5);
            Check.bad(V + "s" + word, 1, 8);
            Check.bad(V + "s1 1 " + word, 1, 12);
            Check.bad(V + "d" + word, 1, 8);
            Check.bad(V + "d1," + word, 1, 10);
            Check.bad(TWO + "n" + word, 1, TWO.length() + 1);
            Check.bad(TWO + "n0 1 " + word, 1, TWO.length() + 5);
            if (word != ';') {
                Check.bad("v1 0 1" + word, 1, 6);
                Check.bad(V + "s1 1 1" + word, 1, 13);
                Check.bad(TWO + "n0 1 1" + word, 1, TWO.length() + 6);
            }
            if (word != ';' && word != ',') {
                Check.bad(V + "d1" + word, 1, 9);
            }
        }
        for (String word : new String[] {";", ",", "0", "9", "12345"}) {
            Check.bad(word, 1, 0);
            Check.bad(V + word, 1, 7);
        }
        for (String more : new String[] {"0", "99999"}) {
            Check.bad("v1 0 1 " + more + ";", 1, 7);
            Check.bad(V + "s1 1 1 " + more + ";", 1, 14);
            Check.bad(V + "d1 " + more + ";", 1, 10);
            Check.bad(TWO + "n0 1 1 " + more + ";", 1, TWO.length() + 7);
        }
        Check.bad(V + "d,1;", 1, 8);
        Check.bad(V + "d1,,2;", 1, 10);
        Check.bad(V + "d1,;", 1, 10);
        Check.bad(V + ";", 1, 7);
    }

    private static void theVanIsFirst() {
        Check.says("another word first than 'v'");
        for (String word : new String[] {"s0 0 0;", "d0;", "n0 1 1;", "s", "d", "n"}) {
            Check.bad(word, 1, 0);
            Check.bad(word + V, 1, 0);
            Check.bad("   " + word + V, 1, 3);
            Check.due("'v' ahead of '" + word + "'", Check.tell(new WeWereIn(), V + word) == -11, word.length() == 1);
        }
        Check.good(V + "s0 0 0;", 1);
        Check.good(V + "d0;", 0);
    }

    private static void aThirteenthDin() {
        Check.says("a thirteenth N: at its ','");
        String twelve = V + "d0,1,2,3,4,5,6,7,8,9,0,1";
        Check.good(twelve + ";", 0);
        Check.bad(twelve + ",2;", 1, 31);
        Check.bad(twelve + ",", 1, 31);
        Check.bad(twelve + " , 2;", 1, 32);
        Check.bad(twelve + ",10;", 1, 31);
        Check.bad(twelve + ",00000;", 1, 31);
        Check.bad(twelve + ",x", 1, 31);
        Check.bad(twelve.replace("0,1;", "0,10;") + ",2;", 1, 31);
        Check.bad(twelve.substring(0, twelve.length() - 1) + "10,2;", 2, 30);
    }

    // ---- faults 2 to 4

    private static void notToldYet() {
        Check.says("a STOP that was not told yet (at its first)");
        Check.bad(V + "n0 1 1;", 2, 8);
        Check.bad(V + S + "n0 1 1;", 2, 17);
        Check.bad(TWO + "n2 0 1;", 2, 22);
        Check.bad(TWO + "n2 2 1;", 2, 22);
        Check.bad(TWO + "n 0002 0 1;", 2, 23);
        Check.bad(TWO + "n0   2 1;", 2, 26);
        Check.bad(TWO + "n1 0002 1;", 2, 24);
        Check.bad(TWO + "n9999 0 1;", 2, 22);
        Check.bad(V + S.repeat(7) + "n7 0 1;", 2, 57);
        Check.good(V + S.repeat(7) + "n6 5 1;", 7);
    }

    private static void tooOften() {
        Check.says("3 'v', 'd' again, an eighth 's' (at it)");
        Check.bad(V + "v", 3, 7);
        Check.bad(V + V, 3, 7);
        Check.bad(V + "   v9999", 3, 10);
        Check.bad(TWO + "d1;" + V, 3, 24);
        Check.bad(V + "d0;d0;", 3, 10);
        Check.bad(V + "d0; d", 3, 11);
        Check.bad(V + "d1,2;" + S + "d", 3, 19);
        Check.bad(V + dins(12) + "d", 3, V.length() + 25);
        Check.bad(V + S.repeat(7) + "s", 3, 56);
        Check.bad(V + S.repeat(7) + "  s0 0 0;", 3, 58);
        Check.bad(V + S.repeat(6) + "d1;" + S + "n0 1 1;s", 3, 66);
        Check.good(V + S.repeat(6) + "d1;" + S + "n0 1 1;n1 0 1;", 7);
    }

    private static void likeItself() {
        Check.says("4 T like S (at the T)");
        Check.bad(TWO + "n0 0 1;", 4, 24);
        Check.bad(TWO + "n1 1 1;", 4, 24);
        Check.bad(TWO + "n 1   01 1;", 4, 27);
        Check.bad(TWO + "n0001 1 1;", 4, 27);
        Check.bad(TWO + "n0 0", 4, 24);
        Check.bad(TWO + "n0 0x", 4, 24);
        Check.bad(V + S + "n0 0 1;", 4, 17);
        Check.good(TWO + "n0 1 1;n1 0 1;", 2);
    }

    private static void hasANeighbour() {
        Check.says("S has a neighbour already (at the S)");
        Check.bad(TWO + "n0 1 1;n0 1 1;", 4, 29);
        Check.bad(TWO + "n0 1 1;n0", 4, 29);
        Check.bad(TWO + "n1 0 1;n 001 0 1;", 4, 30);
        Check.bad(V + S.repeat(3) + "n2 0 1;n0 1 1;n2 1 1;", 4, 43);
        Check.bad(V + S.repeat(3) + "n2 0 1;" + S + "n2 1 1;", 4, 43);
        Check.good(V + S.repeat(3) + "n2 0 1;n0 2 1;n1 0 1;", 3);
    }

    private static void theLeastOfSeveral() {
        Check.says("of these the least");
        Check.bad(TWO + "n0 00000 1;", 2, 24);
        Check.bad(TWO + "n1 00001 1;", 2, 24);
        Check.bad(TWO + "n0 1 1;n00000 1 1;", 2, 29);
        Check.bad("d1;d1;", 1, 0);
        Check.bad("s".repeat(8), 1, 0);
        Check.bad(V + "d1,2,3,4,5,6,7,8,9,0,1,2,99999;", 1, 31);
    }

    private static void theFirstOfSeveral() {
        Check.says("FAULTS, at the first letter that has one");
        Check.bad("v0 100 31;s100 4096 10;x", 2, 1);
        Check.bad("v1 100 31;s100 4096 10;x", 2, 3);
        Check.bad("v1 0 31;s100 4096 10;x", 2, 5);
        Check.bad(V + "s100 4096 10;x", 2, 8);
        Check.bad(V + "s0 4096 10;x", 2, 10);
        Check.bad(V + "s0 0 10;x", 2, 12);
        Check.bad(V + "s0 0 0;x v", 1, 14);
        Check.bad(V + "d1;d10;x", 3, 10);
        Check.bad(V + "d10;d1;x", 2, 8);
        Check.bad(TWO + "n0 0 0;", 4, 24);
        Check.bad(TWO + "n0 1 0;n0 1 1;", 2, 26);
        Check.bad(TWO + "n0 1 1;n0 0 0;", 4, 29);
        Check.bad(TWO + "n0 2 0;x", 2, 24);
        Check.bad(V + S.repeat(7) + "s100 0 0;x", 3, 56);
        Check.bad("v1 x 100", 1, 3);
    }

    // ---- what street() does

    private static void emptyText() {
        Check.says("An empty text: no STREET");
        WeWereIn x = new WeWereIn();
        Check.due("at first", x.street(), 0);
        Check.due("at first: fault", x.fault(), Check.NONE);
        Check.due("at first: everything", Check.everything(x), Check.everything(new WeWereIn()));
        x = lived();
        x.street();
        Check.due("behind a street", x.street(), 0);
        Check.due("behind a street: everything", Check.everything(x), Check.everything(new WeWereIn()));
        Check.due("behind a street: no stop", x.stop(0, 0), Check.UNKNOWN);
        Check.due("behind a street: no way", x.round(1, 0), Check.UNKNOWN);
        Check.due("behind a street: no draws", x.drift(1), Check.NOT);
        Check.due("behind a street: image 0", x.goBack(0), Check.NOT);
        Check.due("behind a street: image 1", x.goBack(1), Check.NOT);
        Check.due("behind a street: undo", x.undo(1), Check.NOT);
        Check.due("behind a street: best way", x.bestWay(0, 0), Check.NONE);
        Check.due("behind a street: the seed stays", x.seed(0), 99);
    }

    /** Blanks may stand in an empty text too: it tells as little as one without any. */
    private static void blanksAlone() {
        Check.says("blanks (32) may stand anywhere but within NUMBERS", "An empty text: no STREET");
        for (int blanks : new int[] {1, 2, 239, 240}) {
            Check.good(" ".repeat(blanks), 0);
            WeWereIn x = Check.street("v30 60 10;s10 4095 5;");
            x.round(1, 0);
            x.seed(99);
            Check.due(blanks + " blanks behind a street", Check.tell(x, " ".repeat(blanks)), 0);
            Check.due(blanks + " blanks: everything", Check.everything(x), Check.everything(new WeWereIn()));
            Check.due(blanks + " blanks: undo", x.undo(1), Check.NOT);
            Check.due(blanks + " blanks: the seed stays", x.seed(0), 99);
        }
        Check.bad(" ".repeat(239) + "v", 1, 240);
        Check.bad(" ".repeat(239) + ";", 1, 239);
        Check.bad("  s0 0 0;", 1, 2);
    }

    /** A street that waits, was handed, is left, lies at the depot; deeds, images, a book, and a faulty text in hand. */
    private static WeWereIn lived() {
        WeWereIn x = Check.street("v10 2 3;s5 4095 5;s15 4095 0;s25 0 9;s35 1 9;n1 0 1;n2 0 2;");
        x.keep(1);
        x.round(1234, 1);
        x.seed(5);
        x.keep(0);
        x.order(0);
        x.fetch(2);
        x.seed(99);
        x.see(3, true);
        x.write(0, 1);
        x.write(1, 1);
        Check.feed(x, "v7 8 9;s1 1 1;s2 2 2;d9;n0 1 1;v");
        return x;
    }

    private static void aFaultChangesNothing() {
        Check.says("-10 less the number of its FAULT (all is as it was)");
        WeWereIn x = lived();
        WeWereIn twin = lived();
        Check.due("a faulty text", x.street(), -13);
        Check.due("a faulty text: at", x.fault(), 31);
        Check.due("THE TEXT is empty then", x.told(4), 0);
        Check.due("feed then", x.feed('v'), 1);
        Check.feed(x, "7 8 9;s1 1 1;s2 2 2;d9;n0 1 1;v");
        Check.due("all is as it was", Check.everything(x).replace("fault 31", "fault -1"), Check.everything(twin));
        Check.due("all is as it was, what is hidden too", Check.hidden(x), Check.hidden(twin));
        String[] faulty = {"x", "v0 0 1;", V + V, TWO + "n0 0 1;"};
        for (int number = 1; number <= 4; number++) {
            WeWereIn y = new WeWereIn();
            Check.due("fault " + number, Check.tell(y, faulty[number - 1]), -10 - number);
            Check.due("fault " + number + ": no street", y.told(3) + y.told(0), 0);
            Check.due("fault " + number + ": a good text then", Check.tell(y, TWO), 2);
        }
    }

    private static void streetBeginsAnew() {
        Check.says("all WAIT, no ROUNDS; nothing SEEN, no BOOK; IMAGES, what could be undone are gone; THE SEED stays");
        WeWereIn x = lived();
        x.street();
        Check.due("two stops", Check.tell(x, "v7 8 9;s1 1 1;s2 2 2;d9;n0 1 1;"), 2);
        WeWereIn fresh = Check.street("v7 8 9;s1 1 1;s2 2 2;d9;n0 1 1;");
        fresh.seed(99);
        Check.due("everything", Check.everything(x), Check.everything(fresh));
        Check.due("what is hidden", Check.hidden(x), Check.hidden(fresh));
        x = Check.street("v1 0 1;s0 1 9;s0 0 0;s0 0 0;n1 0 2;");
        x.round(123, 0);
        x.see(0, true);
        Check.due("ahead", Check.state(x), "2/0 3/1 4/0 1 5 1");
        Check.tell(x, "v1 0 1;s0 1 9;s0 0 0;s0 0 0;n1 0 2;");
        Check.due("all wait", Check.state(x), "1/0 1/0 1/0 0 0 0");
    }

    private static void latestFault() {
        Check.says("The letter of the FAULT of the latest street(); NONE");
        WeWereIn x = new WeWereIn();
        Check.due("none yet", x.fault(), Check.NONE);
        Check.tell(x, "x");
        Check.due("at the first letter", x.fault(), 0);
        Check.feed(x, V);
        Check.due("letters change it not", x.fault(), 0);
        x.feed('s');
        x.street();
        Check.due("at the end", x.fault(), 8);
        Check.tell(x, V);
        Check.due("none then", x.fault(), Check.NONE);
        Check.tell(x, "  x");
        Check.due("another", x.fault(), 2);
        x.street();
        Check.due("an empty text has none", x.fault(), Check.NONE);
    }

    private static void boundsOfQuestions() {
        WeWereIn x = Check.street(TWO + "n0 1 5;");
        Check.says("0 R, 1 D, 2 Q, 3 STOPS", "14 how many can be undone. OUTSIDE");
        for (int what = -2; what <= 16; what++) {
            Check.due("told " + what, x.told(what) == Check.OUTSIDE, what < 0 || what > 14);
        }
        Check.says("Of a STOP: what = 0 X, 1 I, 2 B", "since he was thanked. UNKNOWN, OUTSIDE");
        for (int s = -2; s <= 8; s++) {
            for (int what = -2; what <= 8; what++) {
                int answer = x.stop(s, what);
                Check.due("stop " + s + " " + what, answer == Check.UNKNOWN, s < 0 || s > 1);
                Check.due("stop " + s + " " + what, answer == Check.OUTSIDE, s >= 0 && s <= 1 && (what < 0 || what > 6));
            }
        }
        Check.says("its neighbour T (NONE), 5 C (0)");
        Check.due("T", x.stop(0, 4), 1);
        Check.due("C", x.stop(0, 5), 5);
        Check.due("no T", x.stop(1, 4), Check.NONE);
        Check.due("no C", x.stop(1, 5), 0);
        Check.due("none taken", x.stop(1, 6), 0);
        Check.says("DIN of an HOUR (0 .. 11). OUTSIDE");
        for (int hour = -2; hour <= 14; hour++) {
            Check.due("din " + hour, x.din(hour), hour < 0 || hour > 11 ? Check.OUTSIDE : 0);
        }
        for (int far : Check.FAR) {
            Check.due("told " + far, x.told(far), Check.OUTSIDE);
            Check.due("stop " + far, x.stop(far, 0), Check.UNKNOWN);
            Check.due("stop 0 " + far, x.stop(0, far), Check.OUTSIDE);
            Check.due("din " + far, x.din(far), Check.OUTSIDE);
        }
    }
}
