import java.util.regex.Matcher;
import java.util.regex.Pattern;

/** Promises 26 to 32. */
public final class TextsTest {
    private static final String TEST = "(day|hour|men|warm)[=<>][0-9]{1,3}";
    private static final String CLAUSE = "(may|bar) (leave|pass|take|make)( when " + TEST + "(&" + TEST + "){0,2})?";
    private static final Pattern TEXT = Pattern.compile(CLAUSE + "(;" + CLAUSE + "){0,4}");

    public static void main(String[] args) {
        feed();
        text();
        faults();
        faultsByPattern();
        wipe();
        shares();
        between();
        barred();
        testsOfClauses();
        why();
        Due.end();
    }

    private static void feed() {
        SitDown x = new SitDown();
        Due.is("26 feed", x.feed(0x6d617920, 4), 4);
        Due.is("26 feed", x.feed(0xffff6c65, 2), 6);
        Due.is("26 feed", x.feed(0x7a617665, 3), 9);
        Due.is("26 n", x.feed(0, 0), Due.BEYOND);
        Due.is("26 n", x.feed(0, 5), Due.BEYOND);
        Due.is("26 n", x.feed(0, -1), Due.BEYOND);
        Due.is("26 count", x.count(12), 9);
        Due.is("26 the highest first", x.text(0, 0, 0), 0);
        for (int i = 1; i <= 24; i++) {
            Due.is("26 feed", x.feed(0x80818283, 4), 4 * i);
        }
        Due.is("26 feed", x.feed(0, 3), 99);
        Due.is("26 full", x.feed(0, 2), Due.FULL);
        Due.is("26 feed", x.feed(0, 1), 100);
        Due.is("26 full", x.feed(0, 1), Due.FULL);
        Due.is("26 n comes before full", x.feed(0, 5), Due.BEYOND);
    }

    private static void text() {
        SitDown x = new SitDown();
        Due.type(x, "may leave");
        Due.is("27 judge", x.text(4, 0, 1), Due.BEYOND);
        Due.is("27 judge", x.text(-1, 0, 1), Due.BEYOND);
        Due.is("27 from", x.text(0, -1, 1), Due.BEYOND);
        Due.is("27 to", x.text(0, 0, 960), Due.BEYOND);
        Due.is("27 from above to", x.text(0, 5, 4), Due.BEYOND);
        Due.is("27 from", x.text(0, 960, 960), Due.BEYOND);
        Due.is("27 the tape stays", x.count(12), 9);
        Due.is("27 text", x.text(3, 959, 959), 0);
        Due.is("27 the tape is empty", x.count(12), 0);
        for (int t = 1; t < 8; t++) {
            Due.is("27 text", Due.text(x, 0, "bar make"), t);
        }
        Due.is("27 the ninth", Due.text(x, 0, "bar make"), Due.FULL);
        Due.is("27 the tape stays", x.count(12), 8);
        Due.is("27 beyond comes before full", x.text(4, 0, 0), Due.BEYOND);
        x.wipe();
        Due.is("27 full comes before the fault", x.text(0, 0, 0), Due.FULL);
        Due.is("27 count", x.count(6), 8);
    }

    private static void fault(String text, int place) {
        SitDown x = new SitDown();
        Due.is("27 '" + text + "'", Due.text(x, 0, text), -1 - place);
        Due.is("27 the tape stays at '" + text + "'", x.count(12), text.length());
        Due.is("27 no text of '" + text + "'", x.count(6), 0);
        Due.is("27 no finding at '" + text + "'", x.status(-1), 0);
    }

    private static void fine(String text) {
        SitDown x = new SitDown();
        Due.is("27 '" + text + "'", Due.text(x, 0, text), 0);
    }

    private static void faults() {
        String[] whole = {
            "may leave", "bar pass", "may take when day=0", "bar make when hour<023&men>999&warm=12",
            "bar leave;may leave;bar pass;may take;bar make", "may make when men>1;bar make",
            "bar leave when day=1&day=2&day=3;bar leave when day=1&day=2&day=3",
        };
        for (String text : whole) {
            fine(text);
        }
        for (int end = 0; end < 8; end++) {
            fault("bar make".substring(0, end), end);
        }
        String longOne = "may take when hour>1&warm<22";
        for (int end = 9; end < longOne.length(); end++) {
            boolean isWhole = end == 20 || end == 27;
            if (!isWhole) {
                fault(longOne.substring(0, end), end);
            }
        }
        fault(" may leave", 0);
        fault("Bar leave", 0);
        fault("mar leave", 2);
        fault("mayleave", 3);
        fault("may  leave", 4);
        fault("may when", 4);
        fault("bar mane", 6);
        fault("bar leaves", 9);
        fault("bar leave ", 10);
        fault("bar leave ;may leave", 10);
        fault("bar leave; may leave", 10);
        fault("bar leave;", 10);
        fault("bar leave;;", 10);
        fault("bar leave when", 14);
        fault("bar leave when ", 15);
        fault("bar leave when  day=1", 15);
        fault("bar leave when dax=1", 17);
        fault("bar leave when day =1", 18);
        fault("bar leave when day<=1", 19);
        fault("bar leave when day=a", 19);
        fault("bar leave when day=-1", 19);
        fault("bar leave when day=1234", 22);
        fault("bar leave when day=1 ", 20);
        fault("bar leave when day=1&", 21);
        fault("bar leave when day=1&;", 21);
        fault("bar leave when day=1&day=2&day=3&day=4", 32);
        fault("may leave&day=1", 9);
        fault("may leave;may leave;may leave;may leave;may leave;", 49);
        fault("may leave;may leave;may leave;may leave;may leave;may leave", 49);
        fault("bar\u00a0leave", 3);
        fault("\u00ff", 0);
        SitDown x = new SitDown();
        Due.text(x, 0, "may leave;bar leave when warm=1&men");
        Due.is("27 a tape goes on", x.text(0, 0, 5), -36);
        Due.type(x, ">7");
        Due.is("27 a tape goes on", x.text(0, 0, 5), 0);
        SitDown y = new SitDown();
        y.hold(1, 0);
        Due.text(y, 0, "may make when men=9;may");
        Due.is("27 nothing of a fault is left", Due.text(y, 0, "bar make"), 0);
        Due.is("27 nothing of a fault is left", y.barred(3, 0), 1);
        Due.type(y, "bar make when hour=12");
        Due.is("27 bytes that were wiped", Due.text(y, 0, "bar make when hour=1"), 1);
        Due.is("27 bytes that were wiped", y.barred(3, 0), 1);
        Due.is("27 bytes that were wiped", Due.text(y, 0, "bar make when hour="), -20);
        hundredBytes();
    }

    /** THE TAPE is full, and the reading comes to its very end. */
    private static void hundredBytes() {
        String two = "may make when men=1&men=1&men=1;may make when men=1&men=1&men=1;";
        String[] ends = {
            "bar make when men=00&men=000&day=000", "bar make when men=00&men=000&warm=12",
            "bar make when men=00&men=00&day=00;;", "bar make when men=00&men=000&day=00;",
            "bar make when men=00&men=000&day=00&", "bar make when men=00&hour=000&hour<1",
        };
        int[] due = {0, 0, -100, -101, -100, 0};
        for (int i = 0; i < ends.length; i++) {
            SitDown x = new SitDown();
            x.hold(1, 0);
            Due.type(x, two + ends[i]);
            Due.is("27 100 bytes", x.count(12), 100);
            Due.is("27 100 bytes that end so: " + ends[i], x.text(0, 0, 959), due[i]);
            Due.is("27 100 bytes that end so: " + ends[i], x.barred(3, 0), due[i] == 0 ? 1 : 0);
        }
    }

    /** Each place of some TEXTS with each byte there is, and each end: the FAULT is that of a pattern of the grammar. */
    private static void faultsByPattern() {
        String[] whole = {
            "bar leave", "may pass when day=0&men>12", "bar take when hour<123&warm=4&men>05;may make",
            "may make;may make;may make;may make;may make",
        };
        for (String text : whole) {
            for (int i = 0; i < text.length(); i++) {
                byPattern(text.substring(0, i));
                byPattern(text.substring(0, i) + text.substring(i + 1));
                for (char sign = 0; sign < 256; sign++) {
                    byPattern(text.substring(0, i) + sign + text.substring(i + 1));
                }
            }
            for (char sign = 0; sign < 256; sign++) {
                byPattern(text + sign);
            }
        }
    }

    private static void byPattern(String text) {
        SitDown x = new SitDown();
        Due.is("27 '" + text + "' by the pattern", Due.text(x, 0, text), TEXT.matcher(text).matches() ? 0 : -1 - faultOf(text));
    }

    /** A text can go on to a TEXT if the pattern asks for more behind its end. */
    private static int faultOf(String text) {
        for (int end = 1; end <= text.length(); end++) {
            Matcher matcher = TEXT.matcher(text.substring(0, end));
            if (!matcher.matches() && !matcher.hitEnd()) {
                return end - 1;
            }
        }
        return text.length();
    }

    private static void wipe() {
        SitDown x = new SitDown();
        Due.is("28 wipe", x.wipe(), 0);
        x.feed(7, 3);
        Due.is("28 wipe", x.wipe(), 3);
        Due.is("28 wipe", x.wipe(), 0);
        Due.is("28 count", x.count(12), 0);
    }

    private static void shares() {
        SitDown x = new SitDown();
        x.hold(1, 0);
        Due.text(x, 2, "bar make");
        Due.text(x, 2, "bar take");
        Due.text(x, 1, "bar leave");
        Due.type(x, "bar pass");
        x.text(2, 1, 959);
        Due.type(x, "bar pass");
        x.text(2, 0, 0);
        Due.is("29 in force", x.count(7), 4);
        Due.is("29 judge", x.shares(4), Due.BEYOND);
        Due.is("29 judge", x.shares(-1), Due.BEYOND);
        Due.is("29 shares", x.shares(2), 3);
        Due.is("29 told", x.shares(2), Due.STATE);
        Due.is("29 in force", x.count(7), 1);
        Due.is("29 no more", x.barred(3, 0), 0);
        Due.is("29 another judge", x.barred(0, 0), 1);
        Due.is("29 without texts", x.shares(3), 0);
        Due.is("29 a later one", Due.text(x, 2, "bar make"), 5);
        Due.is("29 a later one", x.barred(3, 0), 0);
        x.tick(1);
        Due.is("29 one that begins later", x.barred(1, 0), 0);
        Due.is("29 the other", x.shares(1), 1);
        Due.is("29 in force", x.count(7), 0);
    }

    private static void between() {
        SitDown x = new SitDown();
        x.tick(5);
        Due.type(x, "may pass");
        x.text(0, 2, 10);
        Due.type(x, "may pass");
        x.text(0, 7, 8);
        Due.type(x, "may pass");
        x.text(1, 0, 4);
        Due.type(x, "may pass");
        x.text(2, 6, 959);
        Due.is("30 the open one is not closed", x.between(0), 0);
        x.tick(1);
        Due.is("30 from that in which it was told", x.between(0), 1);
        Due.is("30 not yet", x.between(1), 0);
        x.tick(10);
        Due.is("30 to its end", x.between(0), 6);
        Due.is("30 to its end", x.between(1), 2);
        Due.is("30 told too late", x.between(2), 0);
        Due.is("30 it goes on", x.between(3), 10);
        x.shares(2);
        x.tick(3);
        Due.is("30 not in that in which shares were told", x.between(3), 10);
        x.shares(0);
        Due.is("30 it was over", x.between(0), 6);
        Due.is("30 a judge with shares", Due.text(x, 0, "may pass"), 4);
        x.tick(2);
        Due.is("30 a judge with shares", x.between(4), 0);
        Due.is("30 none", x.between(5), Due.BEYOND);
        Due.is("30 none", x.between(-1), Due.BEYOND);
    }

    private static void barred() {
        SitDown x = new SitDown();
        x.hold(1, 0);
        x.hold(2, 100);
        x.hold(0, 0);
        for (int w = 0; w < 4; w++) {
            Due.is("31 no text", x.barred(w, 0), 0);
        }
        String[] words = {"leave", "pass", "take", "make"};
        for (int w = 0; w < 4; w++) {
            SitDown y = new SitDown();
            y.hold(1, 0);
            Due.text(y, w, "bar " + words[w]);
            for (int v = 0; v < 4; v++) {
                Due.is("31 " + words[w] + " asked for " + v, y.barred(v, 0), v == w ? 1 : 0);
            }
        }
        Due.is("31 word", x.barred(4, 0), Due.BEYOND);
        Due.is("31 word", x.barred(-1, 0), Due.BEYOND);
        Due.is("31 hold", x.barred(0, 3), Due.BEYOND);
        Due.is("31 hold", x.barred(0, -1), Due.BEYOND);
        Due.is("31 no shop", x.barred(0, 2), Due.KIND);
        Due.is("31 word comes before kind", x.barred(4, 2), Due.BEYOND);
        Due.text(x, 0, "bar make;may make;bar leave when men>0;may leave");
        Due.is("31 the first clause", x.barred(3, 0), 1);
        Due.is("31 its test is not so", x.barred(0, 0), 0);
        x.man(0, 9900);
        Due.is("31 its test is so", x.barred(0, 0), 1);
        Due.is("31 in another shop", x.barred(0, 1), 0);
        Due.text(x, 1, "may make when day=0");
        Due.is("31 the greatest text first", x.barred(3, 0), 0);
        x.tick(24);
        Due.is("31 the next day", x.barred(3, 0), 1);
        Due.type(x, "may make");
        x.text(1, 25, 26);
        Due.is("31 not in force yet", x.barred(3, 0), 1);
        x.tick(1);
        Due.is("31 in force", x.barred(3, 0), 0);
        x.tick(1);
        Due.is("31 in force still", x.barred(3, 0), 0);
        x.tick(1);
        Due.is("31 over", x.barred(3, 0), 1);
        x.run(1, true);
        x.hold(1, 0);
        x.run(3, true);
        Due.is("31 it makes not", x.of(3, 6), 0);
        x.shares(0);
        Due.is("31 it makes", x.of(3, 6), 1);
    }

    private static void soAt(String test, int hour, int men, int is) {
        SitDown x = new SitDown();
        x.hold(1, 0);
        for (int m = 0; m < men; m++) {
            x.man(0, 9900);
        }
        for (int h = 0; h < hour; h++) {
            x.tick(1);
        }
        Due.text(x, 0, "bar leave when " + test);
        Due.is("31 " + test + " in hour " + hour, x.barred(0, 0), is);
    }

    private static void testsOfClauses() {
        soAt("day=1", 23, 0, 0);
        soAt("day=1", 24, 0, 1);
        soAt("day<1", 23, 0, 1);
        soAt("day>0", 24, 0, 1);
        soAt("hour=0", 24, 0, 1);
        soAt("hour=24", 24, 0, 0);
        soAt("hour>22", 23, 0, 1);
        soAt("hour<23", 23, 0, 0);
        soAt("hour<23", 22, 0, 1);
        soAt("men=3", 0, 3, 1);
        soAt("men=03", 0, 3, 1);
        soAt("men=003", 0, 3, 1);
        soAt("men=30", 0, 3, 0);
        soAt("men<3", 0, 3, 0);
        soAt("men>2", 0, 3, 1);
        soAt("men>3", 0, 3, 0);
        soAt("warm=12", 0, 0, 1);
        soAt("warm=10", 2, 0, 1);
        soAt("warm<999", 2, 0, 1);
        soAt("warm>10", 2, 0, 0);
        soAt("warm>8&warm<10&hour=3", 3, 0, 1);
        soAt("warm>8&warm<10&hour=4", 3, 0, 0);
        soAt("hour=4&warm>8&warm<10", 3, 0, 0);
        soAt("warm>8&warm<9&hour=3", 3, 0, 0);
    }

    private static void why() {
        SitDown x = new SitDown();
        x.hold(1, 0);
        x.hold(3, 99);
        Due.is("32 none", x.why(0, 0), Due.NONE);
        Due.text(x, 0, "bar make;may pass;bar leave when men=9;may take;may leave");
        Due.is("32 clause", x.why(0, 0), 4);
        Due.is("32 clause", x.why(1, 0), 1);
        Due.is("32 clause", x.why(2, 0), 3);
        Due.is("32 clause", x.why(3, 0), 0);
        Due.text(x, 0, "may pass when hour=1;bar make");
        Due.text(x, 1, "may leave when hour=1;bar leave when hour=0");
        Due.is("32 text", x.why(0, 0), 21);
        Due.is("32 text", x.why(1, 0), 1);
        Due.is("32 text", x.why(3, 0), 11);
        x.tick(1);
        Due.is("32 text", x.why(0, 0), 20);
        Due.is("32 text", x.why(1, 0), 10);
        x.shares(0);
        Due.is("32 none", x.why(1, 0), Due.NONE);
        Due.is("32 word", x.why(4, 0), Due.BEYOND);
        Due.is("32 word", x.why(-1, 0), Due.BEYOND);
        Due.is("32 hold", x.why(0, 2), Due.BEYOND);
        Due.is("32 hold", x.why(0, -1), Due.BEYOND);
        Due.is("32 no shop", x.why(0, 1), Due.KIND);
        Due.is("32 word comes before kind", x.why(4, 1), Due.BEYOND);
        x.tick(1);
        Due.is("32 none", x.why(0, 0), Due.NONE);
    }
}
