import java.io.IOException;
import java.nio.file.Files;
import java.nio.file.Path;
import java.util.regex.Matcher;
import java.util.regex.Pattern;

/**
 * For each sentence of the document that names an edge, a test of its own, in the document's order.
 * A test begins with edge(..), which quotes what it is about: the quote must stand in the document under
 * the heading told, and in the end every sentence of the Terms and of the promises must have been quoted.
 * No object is used for more than the 512 calls that the document gives it.
 */
public final class EdgesTest {
    private static final int NONE = -1000000, BAD = -1000001, STATE = -1000002, FULL = -1000003;
    private static final int NULL = -1000011, PLACE = -1000012, KIND = -1000013, SIZE = -1000014, STORE = -1000015;
    private static final int FAULT = -1000100;
    private static final int LEAST = Integer.MIN_VALUE, MOST = Integer.MAX_VALUE;

    /** Behind one MINUTE 3, 4, 5, 2, 2 are UP in a TUBE of each SORT, and 83 are left in the ROOM. */
    private static final String ALL_SORTS = "h0,0;m99,0;p0,3,10;g0,4,25;s0,5,8;w0,2,12;l0,2,6;";
    /** WARMTH is 2, 3, 4, .. behind each MINUTE; its TUBE is on THE STEP and has nothing. */
    private static final String RISING = "h0,0;m1,1;p1,1,1;";
    /** Nothing ever happens here, but that MINUTES pass. */
    private static final String STILL = "h0,0;m0,0;p1,1,1;";

    private static String document = "";
    private static boolean[] quoted = new boolean[0];
    private static int sectionBegins = 0;
    private static int sectionEnds = 0;
    private static String sentence = "";
    private static int wrong = 0;

    public static void main(String[] args) throws IOException {
        document = Files.readString(Path.of("../shared/DOC.md"));
        quoted = new boolean[document.length()];
        under("What it is");
        fiveHundredCalls();
        under("The public face");
        constants();
        under("Terms");
        termsOfNumbers();
        termsOfRefusals();
        termsOfRows();
        termsOfTexts();
        termsOfLimitsInTexts();
        termsOfFaults();
        termsOfWants();
        termsOfMinutes();
        termsOfWarmth();
        termsOfActs();
        termsOfAhead();
        termsOfOut();
        termsOfShake();
        termsOfHangAndFire();
        termsOfPour();
        termsOfMixAndSale();
        termsOfRowsTold();
        termsOfForgotten();
        termsOfWinters();
        termsOfKinds();
        termsOfBodies();
        termsOfTheStep();
        promises1To5();
        promises6To9();
        promises10To14();
        promises15To16();
        promises17To21();
        promises22To25();
        promises26To29();
        promises30To31();
        promises32To35();
        promises36To41();
        allQuoted();
        System.out.println(wrong == 0 ? "all edges hold" : wrong + " edges do not hold");
        if (wrong != 0) {
            System.exit(1);
        }
    }

    // ---- the document

    private static void under(String heading) {
        int at = document.indexOf("\n## " + heading);
        if (at < 0) {
            complain("the document has no heading " + heading);
            at = 0;
        }
        sectionBegins = document.indexOf('\n', at + 1);
        int next = document.indexOf("\n## ", sectionBegins);
        sectionEnds = next < 0 ? document.length() : next;
    }

    private static void edge(String quote) {
        sentence = quote;
        int at = document.indexOf(quote, sectionBegins);
        if (at < 0 || at + quote.length() > sectionEnds) {
            complain("the document does not say this here");
            return;
        }
        for (int i = at; i < at + quote.length(); i++) {
            quoted[i] = true;
        }
    }

    /** Sentences end at a stop that is not one of two (as in 0 .. 7), or at the line's end. */
    private static void allQuoted() {
        Pattern sentences = Pattern.compile("\\S.*?((?<![. ])\\.(?=\\s)|\\n)");
        int terms = document.indexOf("\n## Terms");
        int end = document.indexOf("\n## Not promised");
        Matcher m = sentences.matcher(document);
        m.region(document.indexOf('\n', terms + 1), end);
        while (m.find()) {
            String text = m.group().trim();
            boolean isSaid = !text.startsWith("#") && !text.startsWith("```") && !text.startsWith("Ahead of the calls");
            boolean has = false;
            for (int i = m.start(); i < m.end(); i++) {
                has |= quoted[i];
            }
            if (isSaid && !has) {
                sentence = text;
                complain("this sentence has no test of its own");
            }
        }
    }

    private static void complain(String what) {
        wrong++;
        System.out.println("\"" + sentence + "\": " + what);
    }

    private static void due(String what, long got, long want) {
        if (got != want) {
            complain(what + " answered " + got + ", due is " + want);
        }
    }

    // ---- objects

    private static int tell(WarmTubes x, String text) {
        for (int i = 0; i < text.length(); i++) {
            x.feed(text.charAt(i));
        }
        return x.house();
    }

    private static WarmTubes told(String text) {
        WarmTubes x = new WarmTubes();
        if (tell(x, text) <= 0) {
            complain("no HOUSE is read from " + text);
        }
        return x;
    }

    private static WarmTubes told(String text, int minutes) {
        WarmTubes x = told(text);
        pass(x, minutes);
        return x;
    }

    private static void pass(WarmTubes x, int minutes) {
        for (int left = minutes; left > 0; left -= 24) {
            x.minutes(Math.min(24, left));
        }
    }

    private static void reads(String text) {
        WarmTubes x = new WarmTubes();
        int tubes = text.replaceAll("[^pgswl]", "").length();
        due("house() of " + text, tell(x, text), tubes);
        due("fault() of " + text, x.fault(), 0);
    }

    private static void faulty(String text, int place, int number) {
        WarmTubes x = new WarmTubes();
        due("house() of " + text, tell(x, text), FAULT - place);
        due("fault() of " + text, x.fault(), number);
        due("count(1) behind " + text, x.count(1), 0);
    }

    private static void lay(WarmTubes x, int row, int lane, int... items) {
        x.row(row, lane, items.length);
        for (int i = 0; i < items.length; i++) {
            x.set(row, i, items[i]);
        }
    }

    private static void up(WarmTubes x, int... want) {
        for (int t = 0; t < want.length; t++) {
            due("tube(" + t + ", 3)", x.tube(t, 3), want[t]);
        }
    }

    private static void wants(WarmTubes x, int... want) {
        for (int t = 0; t < want.length; t++) {
            due("tube(" + t + ", 4)", x.tube(t, 4), want[t]);
        }
    }

    private static void warmth(WarmTubes x, int... want) {
        for (int r = 0; r < want.length; r++) {
            due("room(" + r + ", 0)", x.room(r, 0), want[r]);
        }
    }

    private static void outs(WarmTubes x, int room, int n, int many, int which) {
        due("outs(" + room + ", " + n + ", 0)", x.outs(room, n, 0), many);
        due("outs(" + room + ", " + n + ", 1)", x.outs(room, n, 1), which);
    }

    private static void shakes(WarmTubes x, int room, int n, int many, int which) {
        due("shakes(" + room + ", " + n + ", 0)", x.shakes(room, n, 0), many);
        due("shakes(" + room + ", " + n + ", 1)", x.shakes(room, n, 1), which);
    }

    private static void hang(WarmTubes x, int tube, int n, int where, int much) {
        due("hang(" + tube + ", " + n + ", 0)", x.hang(tube, n, 0), where);
        due("hang(" + tube + ", " + n + ", 1)", x.hang(tube, n, 1), much);
    }

    private static void mix(WarmTubes x, int room, int w, int many, int least) {
        due("mix(" + room + ", " + w + ", 0)", x.mix(room, w, 0), many);
        due("mix(" + room + ", " + w + ", 1)", x.mix(room, w, 1), least);
    }

    private static void sale(WarmTubes x, int n, int b, int c, int when, int much) {
        due("sale(0, " + n + ", " + b + ", " + c + ", 0)", x.sale(0, n, b, c, 0), when);
        due("sale(0, " + n + ", " + b + ", " + c + ", 1)", x.sale(0, n, b, c, 1), much);
    }

    private static void pours(WarmTubes x, int tube, int much, int... row) {
        due("pours(" + tube + ", " + much + ", -1)", x.pours(tube, much, -1), row.length);
        for (int k = 0; k < row.length; k++) {
            due("pours(" + tube + ", " + much + ", " + k + ")", x.pours(tube, much, k), row[k]);
        }
        due("pours(" + tube + ", " + much + ", " + row.length + ")", x.pours(tube, much, row.length), NONE);
    }

    private static void likely(WarmTubes x, int n, int p, long above, long below) {
        due("forgotten(0, " + n + ", " + p + ", 0)", x.forgotten(0, n, p, 0), above);
        due("forgotten(0, " + n + ", " + p + ", 1)", x.forgotten(0, n, p, 1), below);
    }

    private static void traced(WarmTubes x, int... bodies) {
        for (int i = 0; i < bodies.length; i++) {
            due("trace(" + i + ")", x.trace(i), bodies[i]);
        }
        due("trace(" + bodies.length + ")", x.trace(bodies.length), NONE);
    }

    private static void asked(WarmTubes x, int one, int what, int want, int... bodies) {
        due("ask(" + one + ", " + what + ")", x.ask(one, what), want);
        traced(x, bodies);
    }

    /** All that can be seen of an object, but status(), and what its ROWS hold. */
    private static String sight(WarmTubes x) {
        StringBuilder s = new StringBuilder();
        s.append(x.fault()).append(' ').append(x.degrees());
        for (int what = 0; what < 8; what++) {
            s.append(' ').append(x.count(what));
        }
        for (int t = 0; t < x.count(2); t++) {
            s.append(" tube ").append(x.kind(t));
            for (int what = 0; what < 5; what++) {
                s.append(' ').append(x.tube(t, what));
            }
        }
        for (int r = 0; r < x.count(1); r++) {
            s.append(" room ").append(x.room(r, 0)).append(' ').append(x.room(r, 1)).append(' ').append(x.ahead(r, 60));
        }
        for (int i = 0; i < 4; i++) {
            s.append(" trace ").append(x.trace(i));
        }
        return s.toString();
    }

    /** All that ACTS can change in a HOUSE of one ROOM. */
    private static String glance(WarmTubes x) {
        StringBuilder s = new StringBuilder();
        s.append(x.count(3)).append(' ').append(x.room(0, 0)).append(' ').append(x.room(0, 1));
        int tubes = x.count(2);
        for (int t = 0; t < tubes; t++) {
            s.append(" tube ").append(x.tube(t, 0)).append(' ').append(x.tube(t, 3));
        }
        return s.toString();
    }

    private static void seen(String what, WarmTubes x, String before) {
        String after = sight(x);
        if (!after.equals(before)) {
            complain(what + ": " + before + " became " + after);
        }
    }

    // ---- What it is, and the face

    private static void fiveHundredCalls() {
        edge("An object is used for at most 512 calls after it has been made");
        WarmTubes x = told("h0,60;m1,1;p1,1,1;");
        for (int call = 20; call < 512; call++) {
            due("call " + call + ", ahead(0, 60)", x.ahead(0, 60), 61);
        }
        due("call 512, minutes(24)", x.minutes(24), 1);
    }

    private static void constants() {
        edge("NONE = -1000000, BAD = -1000001, STATE = -1000002, FULL = -1000003");
        due("NONE", WarmTubes.NONE, NONE);
        due("BAD", WarmTubes.BAD, BAD);
        due("STATE", WarmTubes.STATE, STATE);
        due("FULL", WarmTubes.FULL, FULL);
    }

    // ---- Terms

    private static void termsOfNumbers() {
        edge("Numbers go from 0 on.");
        WarmTubes x = told(ALL_SORTS);
        due("row(0, 0, 1)", x.row(0, 0, 1), 1);
        due("row(-1, 0, 1)", x.row(-1, 0, 1), BAD);
        due("set(0, 0, 5)", x.set(0, 0, 5), 5);
        due("set(0, -1, 5)", x.set(0, -1, 5), PLACE);
        due("tube(0, 2)", x.tube(0, 2), 10);
        due("tube(-1, 2)", x.tube(-1, 2), BAD);
        due("room(0, 0)", x.room(0, 0), 99);
        due("room(-1, 0)", x.room(-1, 0), BAD);
        due("ask(0, 1)", x.ask(0, 1), 0);
        due("trace(0)", x.trace(0), 21);
        due("trace(-1)", x.trace(-1), NONE);

        edge("All that is divided is cut towards 0");
        x = told("h0,0;m99,0;g0,1,40;");
        int[] ups = {0, 1, 2, 3, 4, 5, 6, 7, 8, 9, 10, 12, 14, 16, 18, 20, 23, 26, 29, 32, 36, 40, 40};
        for (int i = 0; i < ups.length; i++) {
            due("tube(0, 3) behind " + i, x.tube(0, 3), ups[i]);
            due("tube(0, 4) behind " + i, x.tube(0, 4), 1 + ups[i] / 10);
            x.minutes(1);
        }

        edge("fractions, told as two numbers in lowest terms (0 is 0 by 1)");
        x = told("h2,5;m20,0;p0,4,40;p0,3,40;");
        likely(x, 2, 5, 3, 4);
        likely(x, 2, 2, 24, 25);
        likely(x, 30, 5, 0, 1);
        likely(x, 0, 5, 1, 1);

        edge("Sets are bits.");
        x = told("h0,0;m9,0;m9,0;p0,1,1;p1,1,1;p0,1,1;p2,1,1;p2,1,1;p0,1,1;");
        due("room(0, 3)", x.room(0, 3), 1 + 4 + 32);
        due("room(1, 3)", x.room(1, 3), 2);
        due("room(2, 3)", x.room(2, 3), 8 + 16);
    }

    private static void termsOfRefusals() {
        edge("Refusals are answers, the first of these that fits, but as told: BAD (a number is not as told; there is no "
            + "such thing), STATE (as told), FULL (as told), then FINDINGS");
        WarmTubes x = new WarmTubes();
        due("image(2) without a HOUSE", x.image(2), BAD);
        due("restore(2) without an IMAGE", x.restore(2), BAD);
        for (int i = 0; i < 120; i++) {
            x.feed('h');
        }
        due("feed(256) on a full tape", x.feed(256), BAD);
        x = told(STILL, 990);
        due("minutes(25), too far", x.minutes(25), BAD);
        due("pour(0, 0) of nothing", x.pour(0, 0), BAD);
        due("carry(0, 2), where no ROOM is", x.carry(0, 2), BAD);
        due("shake(1) of nothing", x.shake(1), BAD);
        due("who of a missing ROW, n too great", x.who(0, 0, 0, 0, 0, 13), BAD);
        due("frosts of a missing ROW, n too small", x.frosts(0, 0, 0, 0, 0), BAD);
        due("copy of a missing ROW to none", x.copy(0, 0, 8, 0, 1), BAD);
        due("as with no such KIND", x.as(0, 6), BAD);
        due("row with no such LANE, n below 0", x.row(0, 3, -1), BAD);

        edge("of several the first in time");
        x.row(0, 0, 2);
        x.row(1, 1, 2);
        due("NULL ahead of PLACE", x.set(2, -1, 0), NULL);
        due("NULL ahead of STORE, PLACE", x.copy(0, -1, 2, 9, 9), NULL);
        due("STORE ahead of PLACE", x.copy(0, -1, 1, 9, 9), STORE);
        due("NULL ahead of PLACE of who", x.who(0, 0, 0, 2, 40, 12), NULL);
        due("NULL ahead of PLACE of frosts", x.frosts(0, 0, 2, -1, 12), NULL);

        edge("-1000010 less 1 NULL (a ROW that is missing), 2 PLACE (no such place of a ROW), 3 KIND (a TUBE that is not "
            + "that), 4 SIZE (fewer than none), 5 STORE (ROWS of two LANES)");
        due("NULL", x.drop(2), -1000011);
        due("PLACE", x.set(0, 2, 0), -1000012);
        due("KIND", x.as(0, 2), -1000013);
        due("SIZE", x.row(0, 0, -1), -1000014);
        due("STORE", x.copy(0, 0, 1, 0, 0), -1000015);

        refusalsChangeNothing();
        findingsChangeNothing();
    }

    private static void refusalsChangeNothing() {
        edge("What is refused, or found, changes nothing but status().");
        WarmTubes x = told(ALL_SORTS, 1);
        x.image(0);
        x.ask(1, 0);
        x.as(0, 2);
        x.feed('h');
        String before = sight(x);
        due("minutes(0)", x.minutes(0), BAD);
        due("minutes(25)", x.minutes(25), BAD);
        due("carry to where it is", x.carry(0, 0), STATE);
        due("carry to no ROOM", x.carry(0, 2), BAD);
        due("shake of no TUBE", x.shake(5), BAD);
        due("pour into itself", x.pour(0, 0), BAD);
        due("pour into none", x.pour(0, 5), BAD);
        due("stove too great", x.stove(0, 21), BAD);
        due("stove of THE STEP", x.stove(1, 5), BAD);
        due("feed of no byte", x.feed(256), BAD);
        due("ask of no TUBE", x.ask(5, 0), BAD);
        due("ask for nothing", x.ask(0, 2), BAD);
        due("image(2)", x.image(2), BAD);
        due("restore(1)", x.restore(1), STATE);
        due("restore(2)", x.restore(2), BAD);
        due("row(8, 0, 1)", x.row(8, 0, 1), BAD);
        due("drop(8)", x.drop(8), BAD);
        due("as(0, 6)", x.as(0, 6), BAD);
        seen("behind refusals", x, before);
        due("status() behind refusals", x.status(), 3);

        x = told(STILL, 999);
        before = sight(x);
        due("minutes(1) too far", x.minutes(1), FULL);
        due("minutes(24) too far", x.minutes(24), FULL);
        due("shake of nothing", x.shake(0), STATE);
        seen("behind FULL and STATE", x, before);
    }

    private static void findingsChangeNothing() {
        WarmTubes x = told(RISING, 1);
        lay(x, 0, 0, 3, 4);
        lay(x, 1, 1, 3, 4);
        String before = sight(x);
        due("SIZE", x.row(0, 2, -1), SIZE);
        due("STORE", x.copy(1, 0, 0, 1, 1), STORE);
        due("PLACE of set", x.set(0, 2, 9), PLACE);
        due("PLACE of copy", x.copy(0, 0, 0, 1, 2), PLACE);
        due("PLACE of who", x.who(0, 0, 0, 0, 1, 2), PLACE);
        due("PLACE of frosts", x.frosts(0, 0, 0, 1, 2), PLACE);
        due("NULL of copy", x.copy(0, 0, 2, 0, 1), NULL);
        due("NULL of drop", x.drop(2), NULL);
        due("KIND", x.as(0, 4), KIND);
        seen("behind findings", x, before);
        due("ROW 0 behind findings", x.frosts(0, 1, 0, 0, 2), 65);
        due("ROW 1 behind findings", x.frosts(0, 1, 1, 0, 2), 65);
        due("the LANE of ROW 0 behind findings", x.set(0, 0, 128), -128);
    }

    private static void termsOfRows() {
        edge("ROWS 0 .. 7 are missing (at first)");
        WarmTubes x = told(STILL);
        for (int row = 0; row < 8; row++) {
            due("drop(" + row + ")", x.drop(row), NULL);
        }
        due("drop(8)", x.drop(8), BAD);
        due("drop(-1)", x.drop(-1), BAD);

        edge("or have a LANE (0 bytes, 1 shorts, 2 ints)");
        due("row(0, -1, 1)", x.row(0, -1, 1), BAD);
        due("row(0, 3, 1)", x.row(0, 3, 1), BAD);
        for (int lane = 0; lane < 3; lane++) {
            due("row(" + lane + ", " + lane + ", 1)", x.row(lane, lane, 1), 1);
        }
        int[] given = {127, 128, 255, 256, 32767, 32768, 65536, MOST, LEAST};
        int[] bytes = {127, -128, -1, 0, -1, 0, 0, -1, 0};
        int[] shorts = {127, 128, 255, 256, 32767, -32768, 0, -1, 0};
        for (int i = 0; i < given.length; i++) {
            due("set of a byte to " + given[i], x.set(0, 0, given[i]), bytes[i]);
            due("set of a short to " + given[i], x.set(1, 0, given[i]), shorts[i]);
            due("set of an int to " + given[i], x.set(2, 0, given[i]), given[i]);
        }

        edge("0 to 40 ITEMS, 0 at first");
        due("row(3, 2, 0)", x.row(3, 2, 0), 0);
        due("set(3, 0, 1)", x.set(3, 0, 1), PLACE);
        due("row(4, 2, 40)", x.row(4, 2, 40), 40);
        due("set(4, 40, 1)", x.set(4, 40, 1), PLACE);
        due("row(4, 2, 41)", x.row(4, 2, 41), BAD);
        due("row(4, 2, -1)", x.row(4, 2, -1), SIZE);
        // 0 is what WARMTH is and stays in this HOUSE
        for (int i = 0; i < 40; i++) {
            due("ITEM " + i, x.frosts(0, 1, 4, i, 1), 65);
        }
        due("set(4, 39, 7)", x.set(4, 39, 7), 7);
        due("ITEM 39 then", x.frosts(0, 1, 4, 39, 1), 0);
        x.row(4, 2, 40);
        due("ITEM 39 of a new ROW", x.frosts(0, 1, 4, 39, 1), 65);
        x.set(4, 39, 7);
        x.row(4, 2, 3);
        x.row(4, 2, 40);
        due("ITEM 39 behind a shorter ROW", x.frosts(0, 1, 4, 39, 1), 65);
    }

    private static void termsOfTexts() {
        edge("THE TAPE has at most 120 bytes, that come one by one");
        WarmTubes x = new WarmTubes();
        for (int i = 1; i <= 120; i++) {
            due("feed(" + i + ")", x.feed(i), i);
        }
        due("feed of one more", x.feed(1), FULL);
        due("count(7)", x.count(7), 120);
        // the longest text that is right has 102 bytes; what stands behind it cannot stand there
        String longest = "h09,60;" + "m99,20;".repeat(5) + "p05,09,40;".repeat(6);
        reads(longest);
        faulty(longest + ";".repeat(18), 102, 1);

        edge("TOKENS: letters a to z (each by itself), NUMBERS (figures, 2 at most), SIGNS , and ; nothing else.");
        reads("h00,00;m00,00;p00,01,01;");
        int[] signs = {0, ' ', '\n', '/', ':', '.', '-', '+', '@', 'A', 'H', 'Z', '[', '`', '{', 127, 128, 255};
        for (int sign : signs) {
            faulty((char) sign + "h0,0;m0,0;p0,1,1;", 0, 1);
            faulty("h" + (char) sign + "0,0;m0,0;p0,1,1;", 1, 1);
            faulty("h0" + (char) sign + ",0;m0,0;p0,1,1;", 2, 1);
        }
        faulty("hm0,0;", 1, 1);
        faulty("h000,0;", 1, 1);

        edge("house: law room { room } tube { tube }.");
        reads("h0,0;m0,0;p0,1,1;");
        reads("h0,0;m0,0;m0,0;p0,1,1;p0,1,1;");
        faulty("m0,0;p0,1,1;", 0, 1);
        faulty("h0,0;p0,1,1;", 5, 1);
        faulty("h0,0;m0,0;", 10, 1);
        faulty("h0,0;h0,0;m0,0;p0,1,1;", 5, 1);
        faulty("h0,0;m0,0;p0,1,1;m0,0;", 17, 1);
        faulty("h0,0;m0,0;h0,0;", 10, 1);

        edge("A HOUSE that is read stands in place of the one before (none at first): MINUTE 0, nothing is UP in any TUBE; "
            + "no ACT can be undone.");
        x = new WarmTubes();
        due("degrees() at first", x.degrees(), STATE);
        tell(x, ALL_SORTS);
        x.minutes(1);
        x.stove(0, 20);
        x.ahead(0, 60);
        due("another HOUSE", tell(x, "h9,60;m7,1;m8,2;l2,9,40;"), 1);
        int[] counts = {0, 2, 1, 0, 3, 0, 0, 0};
        for (int what = 0; what < counts.length; what++) {
            due("count(" + what + ")", x.count(what), counts[what]);
        }
        up(x, 0);
        warmth(x, 7, 8);
        due("room(0, 1)", x.room(0, 1), 1);
        due("kind(0)", x.kind(0), 5);
        due("undo()", x.undo(), STATE);
        // of a greater HOUSE nothing is left in a lesser one
        due("a lesser HOUSE", tell(x, "h0,5;m6,0;p1,1,1;"), 1);
        due("degrees() of it", x.degrees(), 6);
        due("count(4) of it", x.count(4), 0);
        due("room(1, 0) of it", x.room(1, 0), BAD);
        due("tube(1, 0) of it", x.tube(1, 0), BAD);
    }

    private static void termsOfLimitsInTexts() {
        edge("law: h FROST , COLD ; (0 to 9; 0 to 60).");
        reads("h0,0;m0,0;p0,1,1;");
        reads("h9,60;m0,0;p0,1,1;");
        faulty("h10,0;m0,0;p0,1,1;", 1, 2);
        faulty("h0,61;m0,0;p0,1,1;", 3, 2);
        faulty("h0;0;", 2, 1);
        faulty("h0,0,", 4, 1);

        edge("room: m WARMTH , STOVE ; (0 to 99; 0 to 20; ROOMS 0 .. 4, 5 at most;");
        reads("h0,0;m99,20;p0,1,1;");
        faulty("h0,0;m0,21;p0,1,1;", 8, 2);
        faulty("h0,0;m100,0;p0,1,1;", 6, 1);
        faulty("h0,0;m0;0;", 7, 1);
        faulty("h0,0;m0,0,", 9, 1);
        reads("h0,0;" + "m0,0;".repeat(5) + "p4,1,1;");
        faulty("h0,0;" + "m0,0;".repeat(6) + "p4,1,1;", 30, 3);

        edge("out of doors, THE STEP, is as a room behind the last, without WARMTH).");
        WarmTubes x = told("h0,0;m3,4;m5,6;p2,1,1;");
        due("tube(0, 0)", x.tube(0, 0), 2);
        due("room(2, 3)", x.room(2, 3), 1);
        due("room(2, 0)", x.room(2, 0), BAD);
        due("room(2, 1)", x.room(2, 1), BAD);
        due("room(2, 2)", x.room(2, 2), BAD);
        due("room(3, 3)", x.room(3, 3), BAD);
        x.minutes(1);
        up(x, 0);
        due("degrees()", x.degrees(), 3 + 4 + 5 + 6);

        edge("tube: SORT ROOM , TAKES , HOLDS ; (SORT: p a plain one, g a greedy one, s a slow one, w one wrapped in wool, "
            + "l a leaking one; a ROOM told, or THE STEP; 1 to 9; 1 to 40; TUBES 0 .. 5, 6 at most).");
        x = told("h0,0;m0,0;p0,1,1;g1,9,40;s0,1,1;w0,1,1;l0,1,1;");
        for (int t = 0; t < 5; t++) {
            due("kind(" + t + ")", x.kind(t), t + 1);
        }
        for (char letter = 'a'; letter <= 'z'; letter++) {
            if ("pgswl".indexOf(letter) < 0 && letter != 'm') {
                faulty("h0,0;m0,0;" + letter + "0,1,1;", 10, 1);
            }
        }
        faulty("h0,0;m0,0;p2,1,1;", 11, 2);
        faulty("h0,0;" + "m0,0;".repeat(5) + "p6,1,1;", 31, 2);
        faulty("h0,0;m0,0;p1,0,1;", 13, 2);
        faulty("h0,0;m0,0;p1,10,1;", 13, 2);
        faulty("h0,0;m0,0;p1,9,0;", 15, 2);
        faulty("h0,0;m0,0;p1,9,41;", 15, 2);
        faulty("h0,0;m0,0;p1;9,40;", 12, 1);
        faulty("h0,0;m0,0;p1,9;40;", 14, 1);
        faulty("h0,0;m0,0;p1,9,40,", 17, 1);
        reads("h0,0;m0,0;" + "p0,1,1;".repeat(6));
        faulty("h0,0;m0,0;" + "p0,1,1;".repeat(7), 52, 3);
    }

    private static void termsOfFaults() {
        edge("FAULTS, the first TOKEN that has one (its first byte)");
        faulty("h10,61;m0,21;", 1, 2);
        faulty("h0,61;m0,21;", 3, 2);
        faulty("h0,0;m0,21;?", 8, 2);
        faulty("h0,0;m0,20;?p9,9,99;", 11, 1);
        faulty("h0,0;m0,0;p0,1,41;p0,1,1", 15, 2);

        edge("of one TOKEN the least:");
        // a run of three figures is no NUMBER, however great; none of these can stand there at all
        faulty("h999,0;", 1, 1);
        faulty("99,0;", 0, 1);
        faulty("h0,0;m0,0;99", 10, 1);
        faulty("h0,0;m0,0;p0,1,1;" + "p0,1,1;".repeat(5) + "m", 52, 1);
        faulty("h0,0;m0,0;p0,1,1;" + "p0,1,1;".repeat(5) + "99", 52, 1);

        edge("1 it cannot stand there, or is none (a run of three figures, at its first; the end: how many bytes there are)");
        faulty("h,", 1, 1);
        faulty("hh", 1, 1);
        faulty("h0,0;m0,0;p0,123,1;", 13, 1);
        faulty("h0,0;m0,0;p0,1234567,1;", 13, 1);
        faulty("h0,000;", 3, 1);
        faulty("h0,0;m0,001;", 8, 1);
        faulty("h0,0;m0,0;p000,1,1;", 11, 1);
        faulty("h0,0;m0,0;p0,1,001;", 15, 1);
        tokensInEachPlace();
        String whole = "h0,0;m0,0;p0,1,1;";
        for (int n = 0; n < whole.length(); n++) {
            faulty(whole.substring(0, n), n, 1);
            faulty(whole + whole.substring(10, 10 + n % 7) + (n % 7 == 0 ? ";" : ""), 17 + n % 7, 1);
        }

        edge("2 a NUMBER that is not as told");
        faulty("h99,99;", 1, 2);
        faulty("h9,99;", 3, 2);
        faulty("h9,60;m99,99;", 10, 2);
        faulty("h9,60;m99,20;p99,99,99;", 14, 2);
        faulty("h9,60;m99,20;p1,99,99;", 16, 2);
        faulty("h9,60;m99,20;p1,9,99;", 18, 2);
        faulty("h9,60;m99,20;p01,09,00;", 20, 2);

        edge("3 a room, a tube more than there is room for (its letter).");
        faulty("h0,0;" + "m0,0;".repeat(5) + "m", 30, 3);
        faulty("h0,0;" + "m0,0;".repeat(5) + "m?", 30, 3);
        for (char sort : "pgswl".toCharArray()) {
            faulty("h0,0;m0,0;" + "p0,1,1;".repeat(6) + sort, 52, 3);
        }
        faulty("h0,0;m0,0;" + "p0,1,1;".repeat(6) + "x", 52, 1);
    }

    /** Each TOKEN of a text that is right, replaced by each that cannot stand there. */
    private static void tokensInEachPlace() {
        String whole = "h1,2;m3,4;p0,5,6;";
        String others = "hmpz,;?";
        for (int i = 0; i < whole.length(); i++) {
            for (char other : others.toCharArray()) {
                // m in place of p begins a ROOM, which fails at its own end only
                boolean begins = whole.charAt(i) == 'p' && other == 'm';
                if (other != whole.charAt(i)) {
                    faulty(whole.substring(0, i) + other + whole.substring(i + 1), begins ? 14 : i, 1);
                }
            }
            faulty(whole.substring(0, i) + "123" + whole.substring(i + 1), figuresBegin(whole, i), 1);
        }
        faulty("h0,0;mm0,0;p0,1,1;", 6, 1);
        faulty("h0,0;m0m0,0;p0,1,1;", 7, 1);
        faulty("h0,0;m0,m0,0;p0,1,1;", 8, 1);
        faulty("h0,0;m0,0m0,0;p0,1,1;", 9, 1);
        faulty("h0,0;m0,0p0,1,1;", 9, 1);
        faulty("h0,0;m0,0;pp0,1,1;", 11, 1);
        faulty("h0,0;m0,0;p0,1p0,1,1;", 14, 1);
        faulty("h0,0;m0,0;p0,1,1p0,1,1;", 16, 1);
        // what a longer text left on the tape does not count
        WarmTubes x = new WarmTubes();
        String[] shorter = {"h1,2;m3,4;p0,5,6", "h1,2;m3,4;p0,5", "h1,2;m3,4;", "h1,2;", "h1", ""};
        for (String text : shorter) {
            due("a whole text", tell(x, whole), 1);
            due(text + " behind a longer text", tell(x, text), FAULT - text.length());
        }
    }

    /** Figures put in place of a sign are one run with a figure ahead of it. */
    private static int figuresBegin(String text, int i) {
        return i > 0 && Character.isDigit(text.charAt(i - 1)) ? i - 1 : i;
    }

    private static void termsOfWants() {
        edge("A TUBE WANTS, in a MINUTE: a plain one TAKES;");
        WarmTubes x = told("h0,0;m9,0;p0,9,40;p1,1,1;");
        wants(x, 9, 1);
        x.minutes(1);
        up(x, 9, 0);
        wants(x, 9, 1);

        edge("a greedy one that, and 1 more for each 10 that are UP in it (cut);");
        x = told("h0,0;m99,0;g0,9,40;p0,1,1;p0,1,1;");
        x.minutes(1);
        wants(x, 9);
        x.pour(1, 0);
        up(x, 10);
        wants(x, 10);
        x.minutes(1);
        up(x, 20);
        wants(x, 11);
        x.shake(1);
        x.pour(0, 1);
        up(x, 19);
        wants(x, 10);

        edge("a slow one that, but only in MINUTES that are even;");
        x = told("h0,0;m99,0;s0,5,40;");
        int[] slow = {0, 5, 5, 10, 10, 15};
        for (int minute = 0; minute < slow.length; minute++) {
            due("UP in MINUTE " + minute, x.tube(0, 3), slow[minute]);
            due("WANTS in MINUTE " + minute, x.tube(0, 4), minute % 2 == 0 ? 5 : 0);
            x.minutes(1);
        }

        edge("one wrapped in wool nothing, if its ROOM is COLD then (or it is on THE STEP), else TAKES;");
        x = told("h0,10;m11,0;m10,0;w0,3,9;w1,3,9;w2,3,9;");
        wants(x, 3, 0, 0);
        x.minutes(1);
        up(x, 3, 0, 0);
        warmth(x, 8, 10);
        wants(x, 0, 0, 0);
        // what another one took just before makes the ROOM COLD then
        x = told("h0,10;m12,0;p0,2,9;w0,3,9;", 1);
        up(x, 2, 0);
        x = told("h0,10;m12,0;w0,3,9;p0,2,9;", 1);
        up(x, 3, 2);

        edge("a leaking one as one in wool, but ahead of that it gives 1 back to its ROOM, if anything is UP.");
        x = told("h0,10;m11,0;l0,3,5;");
        wants(x, 3);
        // at last the 1 given back makes the ROOM warm, and it takes again
        int[] leaking = {3, 2, 1, 3, 2};
        int[] room = {8, 9, 10, 8, 9};
        for (int i = 0; i < leaking.length; i++) {
            x.minutes(1);
            up(x, leaking[i]);
            warmth(x, room[i]);
            wants(x, 0);
        }
        x = told("h0,10;m10,0;l0,3,5;", 2);
        up(x, 0);
        warmth(x, 10);
        // full, it has room for the 1 that it gave
        x = told("h0,10;m50,0;l0,3,5;", 9);
        up(x, 5);
        warmth(x, 45);
    }

    private static void termsOfMinutes() {
        edge("A MINUTE: first each TUBE, by numbers, gives back, if it does, then takes what it WANTS then, no more than "
            + "WARMTH in its ROOM now, no more than HOLDS leaves room for.");
        WarmTubes x = told("h0,0;m5,0;p0,3,9;p0,4,9;p0,1,9;", 1);
        up(x, 3, 2, 0);
        warmth(x, 0);
        x.minutes(1);
        up(x, 3, 2, 0);
        // what the leaking one gives reaches those behind it only
        x = told("h9,1;m12,0;p0,1,9;l0,2,9;", 2);
        up(x, 1, 1);
        x = told("h9,1;m12,0;l0,2,9;p0,1,9;", 2);
        up(x, 1, 2);
        x = told("h0,0;m50,0;p0,9,10;");
        int[] holds = {9, 10, 10};
        for (int i = 0; i < holds.length; i++) {
            x.minutes(1);
            up(x, holds[i]);
            warmth(x, 50 - holds[i]);
        }

        edge("On THE STEP there is no WARMTH to take, and what is given back there is lost.");
        x = told("h0,0;m9,0;p1,9,9;l0,3,9;", 1);
        up(x, 0, 3);
        x.carry(1, 1);
        int[] left = {2, 1, 0, 0};
        for (int i = 0; i < left.length; i++) {
            x.minutes(1);
            up(x, 0, left[i]);
            warmth(x, 6);
            due("degrees()", x.degrees(), 6 + left[i]);
        }

        edge("Then in each ROOM WARMTH is FROST less (0 at least), then STOVE more (999 at most).");
        x = told("h9,0;m8,5;m9,0;m10,0;p3,1,1;", 1);
        warmth(x, 5, 0, 1);
        x.minutes(1);
        warmth(x, 5, 0, 0);
        x = told("h0,0;m99,20;m98,20;p2,1,1;", 44);
        warmth(x, 979, 978);
        x.minutes(1);
        warmth(x, 999, 998);
        x.minutes(1);
        warmth(x, 999, 999);
        // 11 more each MINUTE; at the most the FROST comes first, and the STOVE makes it good
        x = told("h9,0;m99,20;p1,1,1;", 81);
        warmth(x, 990);
        x.minutes(1);
        warmth(x, 999);
        x.minutes(1);
        warmth(x, 999);

        edge("MINUTE is 1 more.");
        due("count(3)", x.count(3), 83);
    }

    private static void termsOfWarmth() {
        edge("A ROOM is COLD, if WARMTH is COLD or less.");
        WarmTubes x = told("h0,5;m4,0;m5,0;m6,0;p3,1,1;");
        due("count(4)", x.count(4), 3);
        due("room(0, 2)", x.room(0, 2), 1);
        due("room(1, 2)", x.room(1, 2), 1);
        due("room(2, 2)", x.room(2, 2), 0);
        x = told("h0,0;m0,0;m1,0;p2,1,1;");
        due("count(4), COLD 0", x.count(4), 1);
        x = told("h0,60;m60,0;m61,0;p2,1,1;");
        due("count(4), COLD 60", x.count(4), 1);

        edge("SHAKEN: all that is UP in a TUBE comes to its ROOM (999 at most there; on THE STEP it is lost).");
        x = told("h0,0;m79,20;m80,20;p0,1,5;p1,1,5;", 46);
        warmth(x, 994, 995);
        due("shake(0)", x.shake(0), 5);
        due("shake(1)", x.shake(1), 5);
        warmth(x, 999, 999);
        up(x, 0, 0);
        x = told("h0,0;m9,0;p0,3,9;", 1);
        x.carry(0, 1);
        due("shake on THE STEP", x.shake(0), 3);
        up(x, 0);
        due("degrees()", x.degrees(), 6);

        edge("POURED: from a TUBE to another one in the same place, as much as is UP in the one, or the other one has room for.");
        x = told("h0,0;m99,0;p0,6,6;p0,4,9;p0,1,40;p1,1,40;", 1);
        due("pour(0, 1), what there is room for", x.pour(0, 1), 5);
        up(x, 1, 9, 1);
        due("pour(0, 1), where there is no room", x.pour(0, 1), STATE);
        due("pour(0, 2), all that is UP", x.pour(0, 2), 1);
        up(x, 0, 9, 2);
        due("pour(0, 2), where nothing is UP", x.pour(0, 2), STATE);
        due("pour(1, 0), just what it holds", x.pour(1, 0), 6);
        up(x, 6, 3, 2);
        due("pour(0, 3), elsewhere", x.pour(0, 3), STATE);
        x.carry(0, 1);
        due("pour(0, 3) on THE STEP", x.pour(0, 3), 6);
        up(x, 0, 3, 2, 6);
    }

    private static void termsOfActs() {
        edge("ACTS (24 at most are kept, of more the oldest is forgotten; each can be undone, the latest first):");
        WarmTubes x = told(RISING);
        for (int kept = 1; kept <= 24; kept++) {
            x.minutes(1);
            due("count(6) behind " + kept, x.count(6), kept);
        }
        x.stove(0, 5);
        due("count(6) behind 25", x.count(6), 24);
        for (int left = 23; left >= 0; left--) {
            due("undo()", x.undo(), left);
            due("room(0, 1)", x.room(0, 1), 1);
            due("count(3)", x.count(3), left + 1);
            warmth(x, left + 2);
        }
        due("undo() of the forgotten", x.undo(), STATE);
        due("count(3) then", x.count(3), 1);
        // the ring goes round more than once
        x = told(RISING, 60);
        for (int i = 0; i < 24; i++) {
            x.undo();
        }
        due("count(3) behind 24 of 60", x.count(3), 36);
        due("undo() behind 24 of 60", x.undo(), STATE);

        edge("a MINUTE; a TUBE is carried to another ROOM (or THE STEP); one is SHAKEN; one is POURED; STOVE of a ROOM is "
            + "another (0 to 20).");
        x = told(ALL_SORTS);
        String[] seen = new String[7];
        for (int act = 0; act < seen.length; act++) {
            seen[act] = glance(x);
            switch (act) {
                case 0: x.minutes(1); break;
                case 1: x.pour(0, 1); break;
                case 2: x.shake(2); break;
                case 3: x.stove(0, 20); break;
                case 4: x.carry(3, 1); break;
                case 5: x.shake(3); break;
                default: x.minutes(1); break;
            }
            due("count(6) behind act " + act, x.count(6), act + 1);
        }
        for (int act = seen.length - 1; act >= 0; act--) {
            due("undo() of act " + act, x.undo(), act);
            if (!glance(x).equals(seen[act])) {
                complain("undo() of act " + act + " left " + glance(x) + ", due is " + seen[act]);
            }
        }
    }

    private static void termsOfAhead() {
        edge("FORETOLD (nothing changes).");
        foretoldChangesNothing();

        edge("AHEAD by n MINUTES (0 to 60): WARMTH of a ROOM; what is UP in a TUBE.");
        WarmTubes x = told("h0,0;m99,20;m0,1;s0,1,40;");
        due("ahead(1, 0)", x.ahead(1, 0), 0);
        due("ahead(1, 60)", x.ahead(1, 60), 60);
        due("ahead(1, 61)", x.ahead(1, 61), BAD);
        due("ahead(1, -1)", x.ahead(1, -1), BAD);
        due("ahead(0, 60)", x.ahead(0, 60), 999);
        int[][] ups = {{0, 0}, {1, 1}, {2, 1}, {58, 29}, {59, 30}, {60, 30}, {61, BAD}, {-1, BAD}};
        for (int[] one : ups) {
            due("upAhead(0, " + one[0] + ")", x.upAhead(0, one[0]), one[1]);
        }
        pass(x, 999);
        due("ahead of MINUTE 999", x.ahead(1, 0), 999);
        x.stove(1, 0);
        due("stove(1, 0) ahead", x.ahead(1, 60), 999);

        edge("CHILL: behind how many MINUTES (0: it is; 60 at most) a ROOM is COLD first; NONE.");
        x = told("h1,0;m0,0;m60,0;m61,0;m1,0;p4,1,1;");
        int[] chill = {0, 60, NONE, 1};
        for (int r = 0; r < chill.length; r++) {
            due("chill(" + r + ")", x.chill(r), chill[r]);
        }
        x = told("h0,5;m7,1;s0,3,3;");
        due("chill of one that is warm again", x.chill(0), 1);
        x.minutes(2);
        due("chill when it is warm again", x.chill(0), NONE);

        edge("FIRST: the ROOM that is COLD first, of several the first; behind how many MINUTES; NONE (within 60).");
        first("h1,0;m9,0;m5,0;m5,0;p3,1,1;", 1, 5);
        first("h1,0;m61,0;m60,0;p2,1,1;", 1, 60);
        first("h1,0;m61,0;p1,1,1;", NONE, NONE);
        first("h1,5;m6,0;m4,0;m5,0;p3,1,1;", 1, 0);
        first("h0,0;m1,0;m1,0;m1,0;m1,0;m0,0;p5,1,1;", 4, 0);

        edge("FILLED: behind how many MINUTES (0 to 60) as much is UP in a TUBE as it HOLDS first; NONE.");
        x = told("h0,0;m99,20;s0,1,30;s0,1,31;p0,1,1;p1,1,1;");
        int[] filled = {59, NONE, 1, NONE};
        int[] later = {58, 60, 0, NONE};
        for (int t = 0; t < filled.length; t++) {
            due("filled(" + t + ")", x.filled(t), filled[t]);
        }
        x.minutes(1);
        for (int t = 0; t < later.length; t++) {
            due("filled(" + t + ") a MINUTE later", x.filled(t), later[t]);
        }
    }

    private static void first(String text, int which, int behind) {
        WarmTubes x = told(text);
        due("first(0) of " + text, x.first(0), which);
        due("first(1) of " + text, x.first(1), behind);
    }

    private static void foretoldChangesNothing() {
        WarmTubes x = told(ALL_SORTS, 1);
        lay(x, 0, 2, 83, 80);
        String before = sight(x);
        x.ahead(0, 60);
        x.upAhead(0, 60);
        x.chill(0);
        x.first(0);
        x.filled(4);
        x.outs(0, 30, 1);
        x.shakes(0, 30, 1);
        x.hang(2, 30, 0);
        x.fire(0, 30);
        x.pours(0, 1, 0);
        x.pours(0, 7, 0);
        x.mix(0, 99, 1);
        x.degrees();
        x.sale(1, 30, 99, 1, 1);
        x.who(0, 0, 0, 0, 0, 2);
        x.who(0, 1, 0, 0, 0, 2);
        x.who(0, 2, 0, 0, 0, 2);
        x.frosts(0, 0, 0, 0, 2);
        x.frosts(0, 1, 0, 0, 2);
        x.forgotten(0, 30, 5, 0);
        x.drawn(60, 20, 1);
        x.image(0);
        seen("behind all that is foretold", x, before);
    }

    private static void termsOfOut() {
        edge("OUT for a ROOM, n MINUTES (1 to 30): the fewest TUBES to be carried to THE STEP now (those not there) so that "
            + "it is COLD behind none of them: how many; which (bits), of several the least; NONE.");
        WarmTubes x = told("h0,5;m20,0;m20,0;p0,4,40;p0,4,40;");
        due("outs(0, 0, 0)", x.outs(0, 0, 0), BAD);
        due("outs(0, 31, 0)", x.outs(0, 31, 0), BAD);
        outs(x, 0, 1, 0, 0);
        // one is enough for 3 MINUTES, either of them
        outs(x, 0, 2, 1, 1);
        outs(x, 0, 3, 1, 1);
        outs(x, 0, 4, 2, 3);
        outs(x, 0, 30, 2, 3);
        outs(x, 1, 30, 0, 0);
        // a greater one is as good as two lesser ones, and fewer
        x = told("h0,5;m20,0;p0,1,40;p0,1,40;p0,8,40;");
        outs(x, 0, 2, 1, 4);
        // both lesser ones together would do, too, and are less as bits: fewest comes first
        x = told("h0,8;m20,0;p0,4,40;p0,4,40;p0,8,40;");
        outs(x, 0, 1, 1, 4);
        // one on THE STEP already is never told
        x = told("h0,5;m20,0;p1,4,40;p0,4,40;p0,4,40;");
        outs(x, 0, 2, 1, 2);
        // COLD behind the first MINUTE, warm behind the second
        x = told("h0,5;m7,1;s0,3,40;");
        outs(x, 0, 2, 1, 1);
        // COLD now, and never behind a MINUTE
        x = told("h0,5;m5,1;p1,1,1;");
        outs(x, 0, 30, 0, 0);
        x = told("h1,5;m6,0;p0,1,1;");
        outs(x, 0, 1, NONE, NONE);
        // just warm behind the 30th
        x = told("h1,5;m36,0;m35,0;p2,1,1;");
        outs(x, 0, 30, 0, 0);
        outs(x, 1, 30, NONE, NONE);
        x = told("h0,5;m6,0;" + "p0,1,1;".repeat(6));
        outs(x, 0, 1, 6, 63);
    }

    private static void termsOfShake() {
        edge("SHAKE for a ROOM, n MINUTES (1 to 30): the fewest TUBES that are in it to be SHAKEN now so that it is not COLD "
            + "behind n MINUTES: how many; which (bits), of several the least; NONE.");
        // slow ones take nothing in MINUTE 1: what is SHAKEN stays, till MINUTE 2
        WarmTubes x = told("h0,10;m20,0;s0,9,9;s0,8,9;", 1);
        due("shakes(0, 0, 0)", x.shakes(0, 0, 0), BAD);
        due("shakes(0, 31, 0)", x.shakes(0, 31, 0), BAD);
        shakes(x, 0, 1, 1, 1);
        shakes(x, 0, 2, NONE, NONE);
        shakes(x, 0, 30, NONE, NONE);
        // 3 and 8 are 11, which is COLD; 3 and 9 are not
        x = told("h0,11;m20,0;s0,8,9;s0,9,9;", 1);
        shakes(x, 0, 1, 1, 2);
        x = told("h0,12;m20,0;s0,8,9;s0,9,9;", 1);
        shakes(x, 0, 1, 2, 3);
        x = told("h0,20;m20,0;s0,8,9;s0,9,9;", 1);
        shakes(x, 0, 1, NONE, NONE);
        // two of 3, less as bits, would do as well as one of 6: fewest comes first
        x = told("h0,11;m20,0;s0,3,3;s0,3,3;s0,6,6;", 1);
        shakes(x, 0, 1, 1, 4);
        // the one in another ROOM, on THE STEP, is not in it
        x = told("h0,10;m5,0;m30,0;s1,9,9;s1,9,9;", 1);
        x.carry(1, 2);
        shakes(x, 0, 1, NONE, NONE);
        // COLD on the way does not matter
        x = told("h0,5;m7,1;s0,3,40;");
        shakes(x, 0, 1, NONE, NONE);
        shakes(x, 0, 2, 0, 0);
        x = told("h1,5;m36,0;m35,0;p2,1,1;");
        shakes(x, 0, 30, 0, 0);
        shakes(x, 1, 30, NONE, NONE);
        x = told("h0,23;m24,0;" + "s0,4,4;".repeat(6), 1);
        shakes(x, 0, 1, 6, 63);
    }

    private static void termsOfHangAndFire() {
        edge("HANG for a TUBE, n MINUTES (1 to 30): the ROOM (or THE STEP) in which, carried there now, most is UP in it "
            + "behind them, of several the first; how much.");
        WarmTubes x = told("h0,0;m3,0;m5,0;m5,0;m4,1;p4,9,40;");
        due("hang(0, 0, 0)", x.hang(0, 0, 0), BAD);
        due("hang(0, 31, 0)", x.hang(0, 31, 0), BAD);
        hang(x, 0, 1, 1, 5);
        hang(x, 0, 2, 1, 5);
        hang(x, 0, 3, 3, 6);
        hang(x, 0, 30, 3, 33);
        x = told("h0,0;m0,0;m0,0;p2,1,1;");
        hang(x, 0, 30, 0, 0);
        x = told("h0,0;m5,0;m3,0;p0,9,40;");
        hang(x, 0, 1, 0, 5);
        // one in wool keeps on THE STEP what it has, as in a COLD ROOM: the first of them
        x = told("h0,9;m10,0;w0,4,40;", 1);
        x.carry(0, 1);
        hang(x, 0, 30, 0, 4);

        edge("FIRE for a ROOM, n MINUTES (1 to 30): the least STOVE (0 to 20), from now on, by which it is not COLD behind n "
            + "MINUTES; NONE.");
        x = told("h9,19;m9,0;m29,20;m28,20;p3,1,1;");
        due("fire(0, 0)", x.fire(0, 0), BAD);
        due("fire(0, 31)", x.fire(0, 31), BAD);
        due("fire, the greatest", x.fire(0, 1), 20);
        due("fire, the least", x.fire(1, 1), 0);
        due("fire, 1", x.fire(2, 1), 1);
        x = told("h9,20;m9,20;p1,1,1;");
        due("fire, none", x.fire(0, 1), NONE);
        x = told("h9,30;m0,0;p1,1,1;");
        due("fire for 3 MINUTES", x.fire(0, 3), 17);
        x = told("h1,0;m30,0;m31,0;p2,1,1;");
        due("fire for 30 MINUTES", x.fire(0, 30), 1);
        due("fire for 30 MINUTES, not needed", x.fire(1, 30), 0);
    }

    private static void termsOfPour() {
        edge("POUR for a TUBE and so much (0 to 40): the fewest POURINGS (0 to 3, each as it can be then), of TUBES in one "
            + "place with it alone, by which just so much is UP in it: how many; the k-th (10 times the one, and the other "
            + "one), of several rows the first (by these numbers); NONE.");
        // glasses of 8, 5 and 3, the first of them full
        WarmTubes x = told("h0,0;m99,0;p0,8,8;p1,1,5;p1,1,3;", 1);
        due("pours of one alone", x.pours(0, 3, -1), NONE);
        pours(x, 0, 8);
        x.carry(1, 0);
        due("pours with one left elsewhere", x.pours(0, 5, -1), NONE);
        x.carry(2, 0);
        due("pours(0, -1, -1)", x.pours(0, -1, -1), BAD);
        due("pours(0, 41, -1)", x.pours(0, 41, -1), BAD);
        due("pours(0, 40, -1)", x.pours(0, 40, -1), NONE);
        pours(x, 0, 8);
        pours(x, 1, 0);
        pours(x, 0, 3, 1);
        pours(x, 0, 5, 2);
        // empty it into both: 1, 2 comes ahead of 2, 1
        pours(x, 0, 0, 1, 2);
        pours(x, 1, 3, 2, 21);
        pours(x, 0, 6, 1, 12, 20);
        pours(x, 0, 2, 2, 21, 2);
        int[][] never = {{0, 1}, {0, 4}, {0, 7}, {1, 1}, {1, 4}};
        for (int[] one : never) {
            due("pours(" + one[0] + ", " + one[1] + ", -1)", x.pours(one[0], one[1], -1), NONE);
            due("pours(" + one[0] + ", " + one[1] + ", 0)", x.pours(one[0], one[1], 0), NONE);
        }
        x.carry(0, 1);
        x.carry(1, 1);
        pours(x, 0, 3, 1);
        x = told("h0,0;m99,20;p0,9,40;p0,9,40;p0,1,1;p0,1,1;p0,1,1;p0,1,1;", 1);
        pours(x, 5, 0, 50);
        pours(x, 0, 8, 21, 2);
        pours(x, 0, 12, 20, 30, 40);
        due("pours that would be 4", x.pours(0, 13, -1), NONE);
    }

    private static void termsOfMixAndSale() {
        edge("MIX of a ROOM: sets of TUBES in it, which, SHAKEN now, make WARMTH just w (0 to 999): how many; the least "
            + "(bits); NONE.");
        WarmTubes x = told("h0,0;m20,0;m50,0;p0,2,2;p0,3,3;p0,5,5;p1,5,5;", 1);
        mix(x, 0, 10, 1, 0);
        mix(x, 0, 12, 1, 1);
        mix(x, 0, 15, 2, 3);
        mix(x, 0, 20, 1, 7);
        mix(x, 0, 11, 0, NONE);
        mix(x, 0, 21, 0, NONE);
        mix(x, 0, 0, 0, NONE);
        mix(x, 0, 999, 0, NONE);
        due("mix(0, -1, 0)", x.mix(0, -1, 0), BAD);
        due("mix(0, 1000, 0)", x.mix(0, 1000, 0), BAD);
        // one with nothing UP makes no odds: with and without it
        x = told("h0,0;m0,0;p0,1,1;p1,1,1;");
        mix(x, 0, 0, 2, 0);
        // 998: one more is 999, two or three more are no more than that
        x = told("h0,0;m81,20;p0,1,1;p0,2,2;", 46);
        warmth(x, 998);
        mix(x, 0, 998, 1, 0);
        mix(x, 0, 999, 3, 1);
        x.minutes(1);
        mix(x, 0, 999, 4, 0);

        edge("DEGREES: all that there is, UP and in ROOMS.");
        x = told("h0,0;m9,0;m8,0;p0,4,4;p1,3,3;", 1);
        due("degrees()", x.degrees(), 17);
        x.carry(0, 2);
        due("degrees() with some on THE STEP", x.degrees(), 17);

        edge("SALE for n MINUTES (1 to 30), a price that is b at first (1 to 99), and c (0 to 9) less each MINUTE (0 at "
            + "least): when to sell all that is UP in a TUBE for most: behind how many MINUTES (0 to n; of several the first); "
            + "for how much.");
        x = told("h0,0;m99,0;p0,1,40;l1,1,1;");
        sale(x, 30, 99, 0, 30, 2970);
        sale(x, 1, 1, 0, 1, 1);
        sale(x, 30, 10, 1, 5, 25);
        sale(x, 30, 9, 1, 4, 20);
        sale(x, 3, 9, 1, 3, 18);
        sale(x, 30, 99, 9, 5, 270);
        sale(x, 30, 1, 9, 0, 0);
        sale(x, 30, 9, 9, 0, 0);
        x.minutes(9);
        sale(x, 30, 1, 0, 30, 39);
        sale(x, 30, 10, 1, 0, 90);
        // 9 and 10 for 10 and 9: of several the first
        sale(x, 1, 10, 1, 0, 90);
        int[][] bad = {{0, 1, 0}, {31, 1, 0}, {1, 0, 0}, {1, 100, 0}, {1, 1, -1}, {1, 1, 10}};
        for (int[] a : bad) {
            due("sale(0, " + a[0] + ", " + a[1] + ", " + a[2] + ", 0)", x.sale(0, a[0], a[1], a[2], 0), BAD);
        }
    }

    private static void termsOfRowsTold() {
        edge("A row tells WARMTH of a ROOM behind each of n MINUTES (1 to 12) from now on.");
        WarmTubes x = told(RISING);
        lay(x, 0, 0, 2, 3, 4, 5, 6, 7, 8, 9, 10, 11, 12, 13, 14);
        due("frosts by 0", x.frosts(0, 1, 0, 0, 0), BAD);
        due("frosts by 13", x.frosts(0, 1, 0, 0, 13), BAD);
        due("who by 0", x.who(0, 0, 0, 0, 0, 0), BAD);
        due("who by 13", x.who(0, 0, 0, 0, 0, 13), BAD);
        due("frosts by 1", x.frosts(0, 1, 0, 0, 1), 65);
        due("frosts by 12", x.frosts(0, 1, 0, 0, 12), 65);
        due("who by 12", x.who(0, 2, 0, 0, 0, 12), 2);
        due("not from now on", x.frosts(0, 1, 0, 1, 12), 0);
        x.minutes(1);
        due("from now on", x.frosts(0, 1, 0, 1, 12), 65);
        x.set(0, 12, 15);
        due("all but the last", x.frosts(0, 1, 0, 1, 11), 65);
        due("the last, too", x.frosts(0, 1, 0, 1, 12), 0);

        edge("KINDS (bits 1 to 5), TAKINGS (1 to 9, bits), PLACES (ROOMS, THE STEP: bits) of a TUBE now by which it is so.");
        x = told("h0,0;m0,0;m0,0;m0,0;m0,0;m0,0;p5,1,1;");
        lay(x, 0, 0, 0);
        due("all KINDS", x.who(0, 0, 0, 0, 0, 1), 62);
        due("all TAKINGS", x.who(0, 1, 0, 0, 0, 1), 1022);
        due("all PLACES", x.who(0, 2, 0, 0, 0, 1), 63);
        x = told("h0,0;m20,0;m20,0;p0,5,40;");
        lay(x, 0, 0, 10, 11, 15, 19, 20);
        int[] takings = {0, 512, 32, 2, 0};
        int[] places = {0, 0, 1, 0, 6};
        for (int i = 0; i < takings.length; i++) {
            due("TAKINGS by ITEM " + i, x.who(0, 1, 0, 0, i, 1), takings[i]);
            due("PLACES by ITEM " + i, x.who(0, 2, 0, 0, i, 1), places[i]);
        }
        x = told("h0,10;m12,0;p0,2,40;");
        lay(x, 0, 0, 10, 8, 10, 10, 8, 10, 10, 10, 10, 9);
        due("PLAIN, GREEDY", x.who(0, 0, 0, 0, 0, 2), 2 + 4);
        due("SLOW", x.who(0, 0, 0, 0, 2, 3), 8);
        due("WRAPPED", x.who(0, 0, 0, 0, 5, 3), 16);
        due("LEAKING", x.who(0, 0, 0, 0, 8, 2), 32);
        x = told("h0,0;m99,0;w0,9,40;");
        lay(x, 0, 0, 90, 81, 71);
        due("GREEDY", x.who(0, 0, 0, 0, 0, 3), 4);

        edge("FROSTS (0 to 9, bits) by which it is so.");
        x = told("h5,0;m9,0;m0,7;p2,1,1;");
        lay(x, 0, 0, 9, 4, 0, 10, 7);
        int[] frosts = {1, 32, 512, 0};
        for (int i = 0; i < frosts.length; i++) {
            due("FROSTS by ITEM " + i, x.frosts(0, 0, 0, i, 1), frosts[i]);
        }
        due("all FROSTS", x.frosts(1, 0, 0, 4, 1), 1023);

        edge("SHAKEN: such a row: TUBES (bits), one of which, SHAKEN now, makes it so; 64 more, if it is so as it is.");
        x = told("h0,0;m50,0;p1,1,1;p1,1,1;p1,1,1;p1,1,1;p1,1,1;s0,5,5;");
        lay(x, 0, 0, 50, 45, 49);
        due("none makes it so, nor is it", x.frosts(0, 1, 0, 0, 1), 0);
        due("so as it is, and by each", x.frosts(0, 1, 0, 1, 1), 127);
        x.minutes(1);
        due("the last one alone", x.frosts(0, 1, 0, 0, 1), 32);
        due("so as it is, but for the last one", x.frosts(0, 1, 0, 1, 1), 95);
        due("neither", x.frosts(0, 1, 0, 2, 1), 0);
        x = told("h0,0;m50,0;s0,5,5;", 1);
        lay(x, 0, 0, 45);
        due("so as it is alone", x.frosts(0, 1, 0, 0, 1), 64);
    }

    private static void termsOfForgotten() {
        edge("FORGOTTEN by p of 10 (0 to 10): each TUBE, but on THE STEP, is carried there now, if it is not forgotten, which "
            + "it is in p of 10 cases, apart: how likely a ROOM is not COLD behind n MINUTES (0 to 30): a fraction.");
        WarmTubes x = told("h0,9;m10,0;" + "p0,1,1;".repeat(6));
        due("p -1", x.forgotten(0, 1, -1, 0), BAD);
        due("p 11", x.forgotten(0, 1, 11, 0), BAD);
        due("n -1", x.forgotten(0, -1, 0, 0), BAD);
        due("n 31", x.forgotten(0, 31, 0, 0), BAD);
        likely(x, 1, 0, 1, 1);
        likely(x, 1, 3, 117649, 1000000);
        likely(x, 1, 9, 1, 1000000);
        likely(x, 1, 10, 0, 1);
        likely(x, 0, 10, 1, 1);
        likely(x, 30, 9, 1, 1000000);
        // one on THE STEP is carried nowhere, one in another ROOM makes no odds
        x = told("h0,9;m10,0;m10,0;p0,1,1;p2,1,1;p1,1,1;");
        likely(x, 1, 5, 1, 2);
        likely(x, 1, 4, 3, 5);
        // COLD on the way does not matter
        x = told("h0,5;m7,1;s0,3,40;");
        likely(x, 1, 7, 3, 10);
        likely(x, 2, 7, 1, 1);
    }

    private static void termsOfWinters() {
        edge("WINTERS of n MINUTES (0 to 60) by a SEED (X at first): ahead of each X becomes the rest of (X times 16807) by "
            + "2147483647; the TUBE that is the rest of X by how many there are is SHAKEN, if X by 4 leaves 0, and then, if X "
            + "by 5 leaves 0, carried to the ROOM that is the rest of X by how many there are; then the MINUTE: how many ROOMS "
            + "are COLD then; DEGREES.");
        WarmTubes x = told("h0,5;m9,0;m9,0;m20,0;p0,4,40;");
        due("drawn(-1, 1, 0)", x.drawn(-1, 1, 0), BAD);
        due("drawn(61, 1, 0)", x.drawn(61, 1, 0), BAD);
        due("no MINUTE", x.drawn(0, 5, 0), 0);
        due("no MINUTE, DEGREES", x.drawn(0, 5, 1), 38);
        due("60 MINUTES, DEGREES", x.drawn(60, 1, 1), 38);
        // 16807: neither SHAKEN nor carried; 84035: carried to ROOM 2
        due("X 16807", x.drawn(1, 1, 0), 1);
        due("X 84035", x.drawn(1, 5, 0), 0);
        // 127776 times 16807 is 47585 more than 2147483647: carried to ROOM 2, too
        due("X 47585", x.drawn(1, 127776, 0), 0);
        // 127773 times 16807 is 2147480811, just less: neither
        due("X 2147480811", x.drawn(1, 127773, 0), 1);
        x.minutes(1);
        due("no MINUTE, later", x.drawn(0, 20, 0), 1);
        // 67228: SHAKEN, then it takes 4 again; 336140: SHAKEN, and then carried to ROOM 2
        due("X 67228", x.drawn(1, 4, 0), 1);
        due("X 336140", x.drawn(1, 20, 0), 0);
        due("X 336140, DEGREES", x.drawn(1, 20, 1), 38);
        // 336140, then 336140 times 16807 less 2 times 2147483647, which is 1354537686: neither
        due("two MINUTES", x.drawn(2, 20, 0), 0);

        // 84035 is TUBE 1 of two, 168070 is TUBE 0, carried to ROOM 1
        x = told("h0,5;m9,0;m50,0;m20,0;p0,4,40;p1,4,40;");
        due("TUBE 1 is carried", x.drawn(1, 5, 0), 1);
        due("TUBE 0 is carried", x.drawn(1, 10, 0), 0);
        // what is UP on THE STEP is lost by 67228, kept by 16807
        x = told("h0,0;m9,0;p0,4,4;", 1);
        x.carry(0, 1);
        due("SHAKEN on THE STEP", x.drawn(1, 4, 1), 5);
        due("not SHAKEN on THE STEP", x.drawn(1, 1, 1), 9);
        due("SHAKEN on THE STEP, then carried in", x.drawn(1, 20, 1), 5);
    }

    private static void termsOfKinds() {
        edge("KINDS of TUBES: 0 TUBE; 1 PLAIN, a TUBE; 2 GREEDY, a PLAIN; 3 SLOW, a PLAIN; 4 WRAPPED, a TUBE; 5 LEAKING, a "
            + "WRAPPED. By this it is asked.");
        WarmTubes x = told(ALL_SORTS);
        String[] is = {"110000", "111000", "110100", "100010", "100011"};
        for (int t = 0; t < is.length; t++) {
            for (int kind = 0; kind < 6; kind++) {
                due("as(" + t + ", " + kind + ")", x.as(t, kind), is[t].charAt(kind) == '1' ? t : KIND);
            }
        }
    }

    private static void termsOfBodies() {
        WarmTubes x = told(ALL_SORTS, 1);
        edge("ASKS of TUBES, by BODIES, each of which leaves its number in THE TRACE as it begins (the first 16): 0 SIZE: 10 "
            + "lent to all TUBES: HOLDS.");
        // the longest of all chains leaves six
        asked(x, 1, 0, -35, 12, 11, 10, 24, 21, 20);
        for (int i = 6; i < 20; i++) {
            due("trace(" + i + ")", x.trace(i), NONE);
        }
        edge("11 of PLAINS: what 10 gives, and MARK.");
        asked(x, 0, 0, 13, 11, 10, 21, 20);
        asked(x, 2, 0, -985, 11, 10, 22, 21, 20);
        edge("12 of GREEDY ones: 0 less what 11 gives.");
        asked(x, 1, 0, -35, 12, 11, 10, 24, 21, 20);
        edge("13 of WRAPPED ones: what 10 gives, less 100.");
        asked(x, 3, 0, -88, 13, 10);
        edge("14 of LEAKING ones: what 13 gives, twice.");
        asked(x, 4, 0, -188, 14, 13, 10);
        edge("1 MARK: 20 lent to all TUBES: the number.");
        asked(x, 0, 1, 3, 21, 20);
        edge("21 of PLAINS: what 20 gives, and what is UP.");
        x.shake(0);
        asked(x, 0, 1, 0, 21, 20);
        edge("22 of SLOW ones: what 21 gives, less 1000.");
        asked(x, 2, 1, -993, 22, 21, 20);
        edge("23 of WRAPPED ones: what 20 gives, less SIZE.");
        asked(x, 3, 1, 91, 23, 20, 13, 10);
        edge("24 of GREEDY ones: what 21 gives, twice.");
        asked(x, 1, 1, 10, 24, 21, 20);
        edge("(Of an ask the BODY told for the KIND begins, else that of the nearest KIND that it is, too, else the one that "
            + "is lent; SIZE, MARK within others are asked of the same TUBE anew.)");
        asked(x, 4, 1, 192, 23, 20, 14, 13, 10);
        asked(x, 2, 0, -985, 11, 10, 22, 21, 20);
    }

    private static void termsOfTheStep() {
        edge("---- what is done (THE STEP: as many as there are ROOMS).");
        for (int rooms = 1; rooms <= 5; rooms++) {
            WarmTubes x = told("h0,0;" + "m0,0;".repeat(rooms) + "p0,1,1;");
            due("carry(0, " + (rooms + 1) + ")", x.carry(0, rooms + 1), BAD);
            due("carry(0, " + rooms + ")", x.carry(0, rooms), 0);
            due("room(" + rooms + ", 3)", x.room(rooms, 3), 1);
            due("stove(" + rooms + ", 1)", x.stove(rooms, 1), BAD);
            due("ahead(" + rooms + ", 1)", x.ahead(rooms, 1), BAD);
        }
        // with as many ROOMS as there can be, each SORT on THE STEP: shaken, poured, let down, taken nowhere
        WarmTubes x = told("h0,0;m9,0;m9,0;m9,0;m9,0;m9,0;p0,2,9;g1,2,9;s2,2,9;w3,2,9;l4,2,9;", 1);
        for (int t = 0; t < 5; t++) {
            x.carry(t, 5);
        }
        due("degrees()", x.degrees(), 45);
        wants(x, 2, 2, 0, 0, 0);
        x.minutes(1);
        up(x, 2, 2, 2, 2, 1);
        warmth(x, 7, 7, 7, 7, 7);
        due("pour(0, 1)", x.pour(0, 1), 2);
        due("shake(1)", x.shake(1), 4);
        due("shake(4)", x.shake(4), 1);
        due("degrees() then", x.degrees(), 39);
        warmth(x, 7, 7, 7, 7, 7);
        due("room(5, 3)", x.room(5, 3), 31);
        hang(x, 0, 1, 0, 2);
        due("who(0, 2, ..) without a ROW", x.who(0, 2, 4, 0, 0, 1), NULL);
    }

    // ---- the promises

    private static void promises1To5() {
        under("Promise 1:");
        edge("`WarmTubes()`: No HOUSE.");
        WarmTubes x = new WarmTubes();
        due("count(1)", x.count(1), 0);
        due("count(2)", x.count(2), 0);
        due("degrees()", x.degrees(), STATE);
        due("tube(0, 0)", x.tube(0, 0), BAD);
        due("room(0, 3), where THE STEP would be", x.room(0, 3), BAD);
        due("carry(0, 0)", x.carry(0, 0), BAD);

        under("Promise 2:");
        x = told(RISING);
        edge("A ROW of a LANE with n ITEMS, in place of what is there: n.");
        due("row(7, 1, 40)", x.row(7, 1, 40), 40);
        x.set(7, 0, 2);
        due("row(7, 0, 1)", x.row(7, 0, 1), 1);
        due("what was there", x.frosts(0, 1, 7, 0, 1), 0);
        due("its LANE", x.set(7, 0, 128), -128);
        due("its end", x.set(7, 1, 0), PLACE);
        due("count(0)", x.count(0), 1);
        edge("BAD: ROW, LANE, n above 40; SIZE.");
        int[][] rows = {{-1, 0, 1}, {8, 0, 1}, {LEAST, 0, 1}, {MOST, 0, 1}, {0, -1, 1}, {0, 3, 1}, {0, MOST, 1}, {0, 0, 41},
            {0, 0, MOST}, {8, 0, -1}, {0, 3, -1}};
        for (int[] a : rows) {
            due("row(" + a[0] + ", " + a[1] + ", " + a[2] + ")", x.row(a[0], a[1], a[2]), BAD);
        }
        due("row(0, 0, -1)", x.row(0, 0, -1), SIZE);
        due("row(0, 0, LEAST)", x.row(0, 0, LEAST), SIZE);

        under("Promise 3:");
        edge("ITEM i becomes v, its lowest bits, as many as the LANE has: what it is then.");
        lay(x, 0, 0, 0, 0);
        due("set(0, 1, 258)", x.set(0, 1, 258), 2);
        due("ITEM 1", x.frosts(0, 1, 0, 1, 1), 65);
        due("ITEM 0", x.frosts(0, 1, 0, 0, 1), 0);
        due("set(0, 0, -129)", x.set(0, 0, -129), 127);
        due("set(0, 0, -128)", x.set(0, 0, -128), -128);
        x.row(1, 1, 1);
        due("set(1, 0, -32769)", x.set(1, 0, -32769), 32767);
        edge("BAD: ROW; NULL; PLACE.");
        due("set(-1, 0, 0)", x.set(-1, 0, 0), BAD);
        due("set(8, 0, 0)", x.set(8, 0, 0), BAD);
        due("set(2, 0, 0)", x.set(2, 0, 0), NULL);
        int[] places = {-1, 2, 40, LEAST, MOST};
        for (int i : places) {
            due("set(0, " + i + ", 0)", x.set(0, i, 0), PLACE);
        }
        copies();
        under("Promise 5:");
        edge("A ROW is missing from now on: how many ITEMS it had.");
        x.row(3, 2, 40);
        x.row(4, 2, 0);
        due("drop(3)", x.drop(3), 40);
        due("drop(4)", x.drop(4), 0);
        due("set(3, 0, 0) then", x.set(3, 0, 0), NULL);
        x.row(3, 2, 1);
        due("a ROW laid again", x.set(3, 1, 0), PLACE);
        edge("BAD; NULL.");
        due("drop(-1)", x.drop(-1), BAD);
        due("drop(8)", x.drop(8), BAD);
        due("drop(4) again", x.drop(4), NULL);
    }

    private static void copies() {
        under("Promise 4:");
        edge("n ITEMS of a from i on come to b from j on, as they were ahead: n.");
        WarmTubes x = told(RISING);
        lay(x, 0, 0, 9, 2, 3, 4, 5);
        due("copy within a ROW, to the front", x.copy(0, 1, 0, 0, 4), 4);
        due("ITEMS 0 to 3", x.frosts(0, 1, 0, 0, 4), 65);
        due("copy within a ROW, to the back", x.copy(0, 0, 0, 1, 4), 4);
        due("ITEMS 1 to 4", x.frosts(0, 1, 0, 1, 4), 65);
        x.row(1, 0, 40);
        due("copy to the end of another", x.copy(0, 1, 1, 36, 4), 4);
        due("ITEMS 36 to 39", x.frosts(0, 1, 1, 36, 4), 65);
        due("copy of nothing, at both ends", x.copy(0, 5, 1, 40, 0), 0);
        x.row(2, 0, 0);
        due("copy of nothing to an empty one", x.copy(0, 0, 2, 0, 0), 0);
        edge("BAD: ROWS; NULL; STORE; PLACE (i, j, n below 0, or beyond an end).");
        due("copy(-1, ..)", x.copy(-1, 0, 0, 0, 0), BAD);
        due("copy(8, ..)", x.copy(8, 0, 0, 0, 0), BAD);
        due("copy(.., -1, ..)", x.copy(0, 0, -1, 0, 0), BAD);
        due("copy(.., 8, ..)", x.copy(0, 0, 8, 0, 0), BAD);
        due("copy of a missing ROW", x.copy(3, 0, 0, 0, 0), NULL);
        due("copy to a missing ROW", x.copy(0, 0, 3, 0, 0), NULL);
        x.row(4, 1, 5);
        due("copy of bytes to shorts", x.copy(0, 0, 4, 0, 0), STORE);
        due("copy of shorts to bytes", x.copy(4, 0, 0, 0, 1), STORE);
        int[][] places = {{-1, 0, 1}, {0, -1, 1}, {0, 0, -1}, {0, 0, 6}, {1, 0, 5}, {5, 0, 1}, {6, 0, 0}, {0, 40, 1}, {0, 36, 5},
            {0, 41, 0}, {LEAST, 0, 1}, {0, LEAST, 1}, {0, 0, LEAST}, {MOST, 0, 1}, {0, MOST, 1}, {0, 0, MOST}, {MOST, MOST, MOST},
            {1, 0, MOST}, {0, 1, MOST}};
        for (int[] a : places) {
            due("copy(0, " + a[0] + ", 1, " + a[1] + ", " + a[2] + ")", x.copy(0, a[0], 1, a[1], a[2]), PLACE);
        }
        due("copy to beyond an empty one", x.copy(0, 0, 2, 0, 1), PLACE);
        due("ITEMS 36 to 39 then", x.frosts(0, 1, 1, 36, 4), 65);
    }

    private static void promises6To9() {
        under("Promise 6:");
        edge("A byte (0 to 255) comes behind the tape: how many it has.");
        WarmTubes x = new WarmTubes();
        due("feed(0)", x.feed(0), 1);
        due("feed(255)", x.feed(255), 2);
        edge("BAD; FULL.");
        int[] bad = {-1, 256, LEAST, MOST};
        for (int letter : bad) {
            due("feed(" + letter + ")", x.feed(letter), BAD);
        }
        for (int i = 3; i <= 120; i++) {
            due("feed(104)", x.feed('h'), i);
        }
        due("feed(104) on a full tape", x.feed('h'), FULL);

        under("Promise 7:");
        edge("The tape, empty then, is read: how many TUBES there are.");
        x = new WarmTubes();
        due("house() of one TUBE", tell(x, STILL), 1);
        due("count(7)", x.count(7), 0);
        due("house() of six", tell(x, "h0,0;m0,0;" + "p0,1,1;".repeat(6)), 6);
        edge("-1000100 less the place of a FAULT: all stays.");
        x = told(ALL_SORTS, 1);
        x.stove(0, 7);
        String before = sight(x).substring(1);
        due("house() of an empty tape", x.house(), FAULT);
        due("house() of a whole one but its end", tell(x, "h9,9;m9,9;l0,9,9;?"), FAULT - 17);
        if (!sight(x).substring(1).equals(before)) {
            complain("a FAULT changed " + before + " to " + sight(x));
        }
        due("undo() behind a FAULT", x.undo(), 1);

        under("Promise 8:");
        edge("The number of the latest FAULT; 0 before one.");
        x = new WarmTubes();
        due("fault() at first", x.fault(), 0);
        tell(x, STILL);
        due("fault() behind a HOUSE", x.fault(), 0);
        tell(x, "h0,0;" + "m0,0;".repeat(6));
        due("fault() 3", x.fault(), 3);
        tell(x, "h10");
        due("fault() 2", x.fault(), 2);
        tell(x, STILL);
        due("fault() behind another HOUSE", x.fault(), 2);
        x.house();
        due("fault() 1", x.fault(), 1);

        under("Promise 9:");
        edge("The latest ACT is undone: how many can be undone yet.");
        x = told(RISING);
        x.minutes(2);
        x.carry(0, 0);
        due("undo() of three", x.undo(), 2);
        due("tube(0, 0)", x.tube(0, 0), 1);
        due("undo() of two", x.undo(), 1);
        due("undo() of one", x.undo(), 0);
        edge("STATE: none.");
        due("undo() of none", x.undo(), STATE);
        warmth(x, 1);
        due("undo() without a HOUSE", new WarmTubes().undo(), STATE);
    }

    private static void promises10To14() {
        under("Promise 10:");
        edge("n MINUTES (1 to 24), an ACT each: ROOMS (bits) that are COLD then.");
        WarmTubes x = told("h1,5;m7,0;m6,0;m0,1;m99,0;m0,20;p5,1,1;");
        due("minutes(1)", x.minutes(1), 2 + 4);
        due("count(6)", x.count(6), 1);
        due("minutes(24)", x.minutes(24), 1 + 2 + 4);
        due("count(6) of 25", x.count(6), 24);
        due("count(3)", x.count(3), 25);
        edge("BAD; STATE: no HOUSE (ahead of BAD); FULL: MINUTE would be above 999.");
        int[] bad = {0, -1, 25, LEAST, MOST};
        for (int n : bad) {
            due("minutes(" + n + ")", x.minutes(n), BAD);
            due("minutes(" + n + ") without a HOUSE", new WarmTubes().minutes(n), STATE);
        }
        x = told(STILL, 976);
        due("minutes(24) of 976", x.minutes(24), FULL);
        due("minutes(23) of 976", x.minutes(23), 1);
        due("count(3)", x.count(3), 999);
        due("minutes(1) of 999", x.minutes(1), FULL);
        due("undo() of 999", x.undo(), 23);
        due("minutes(1) of 998", x.minutes(1), 1);

        under("Promise 11:");
        edge("Carried: where it was.");
        x = told("h0,0;m9,0;m9,0;p0,1,1;");
        due("carry(0, 2)", x.carry(0, 2), 0);
        due("carry(0, 1)", x.carry(0, 1), 2);
        due("carry(0, 0)", x.carry(0, 0), 1);
        edge("BAD; STATE: it is there.");
        int[][] carries = {{-1, 0}, {1, 0}, {0, -1}, {0, 3}, {LEAST, 0}, {MOST, 0}, {0, LEAST}, {0, MOST}};
        for (int[] a : carries) {
            due("carry(" + a[0] + ", " + a[1] + ")", x.carry(a[0], a[1]), BAD);
        }
        due("carry(0, 0) again", x.carry(0, 0), STATE);
        x.carry(0, 2);
        due("carry(0, 2) again", x.carry(0, 2), STATE);

        under("Promise 12:");
        edge("SHAKEN: how much was UP.");
        x = told("h0,0;m99,0;p0,9,40;p0,1,1;", 5);
        due("shake(0)", x.shake(0), 40);
        due("shake(1)", x.shake(1), 1);
        warmth(x, 99);
        edge("BAD; STATE: nothing is.");
        int[] tubes = {-1, 2, LEAST, MOST};
        for (int t : tubes) {
            due("shake(" + t + ")", x.shake(t), BAD);
        }
        due("shake(0) again", x.shake(0), STATE);
        pourAndStove();
    }

    private static void pourAndStove() {
        under("Promise 13:");
        edge("POURED: how much.");
        WarmTubes x = told("h0,0;m99,0;p0,9,40;p0,1,40;p1,1,40;", 5);
        due("pour(0, 1)", x.pour(0, 1), 35);
        due("pour(1, 0)", x.pour(1, 0), 35);
        edge("BAD: alike, too; STATE: not in one place, or nothing can be.");
        int[][] pairs = {{0, 0}, {2, 2}, {-1, 0}, {0, -1}, {3, 0}, {0, 3}, {-1, -1}, {LEAST, 0}, {0, MOST}};
        for (int[] a : pairs) {
            due("pour(" + a[0] + ", " + a[1] + ")", x.pour(a[0], a[1]), BAD);
        }
        due("pour(0, 2), elsewhere", x.pour(0, 2), STATE);
        due("pour(2, 0), elsewhere", x.pour(2, 0), STATE);
        due("pour(1, 0) into a full one", x.pour(1, 0), STATE);
        x.shake(0);
        due("pour(0, 1) of nothing", x.pour(0, 1), STATE);

        under("Promise 14:");
        edge("STOVE (0 to 20): what it was.");
        due("stove(0, 20)", x.stove(0, 20), 0);
        due("stove(0, 0)", x.stove(0, 0), 20);
        int acts = x.count(6);
        due("stove(0, 0) again", x.stove(0, 0), 0);
        due("count(6) behind the same STOVE", x.count(6), acts + 1);
        edge("BAD.");
        int[][] stoves = {{-1, 0}, {1, 0}, {0, -1}, {0, 21}, {MOST, 0}, {LEAST, 0}, {0, LEAST}, {0, MOST}};
        for (int[] a : stoves) {
            due("stove(" + a[0] + ", " + a[1] + ")", x.stove(a[0], a[1]), BAD);
        }
    }

    private static void promises15To16() {
        under("Promise 15:");
        edge("Of a TUBE: 0 where it is, 1 TAKES, 2 HOLDS, 3 what is UP, 4 what it WANTS in this MINUTE (as it is now).");
        WarmTubes x = told("h0,0;m99,0;p0,9,40;g1,1,1;", 5);
        int[][] tubes = {{0, 9, 40, 40, 9}, {1, 1, 1, 0, 1}};
        for (int t = 0; t < tubes.length; t++) {
            for (int what = 0; what < 5; what++) {
                due("tube(" + t + ", " + what + ")", x.tube(t, what), tubes[t][what]);
            }
        }
        // as it is now: the 1 that the leaking one will give back is not in the ROOM yet
        x = told("h0,5;m6,0;l0,1,9;");
        wants(x, 1);
        x.minutes(1);
        wants(x, 0);
        x.minutes(1);
        up(x, 1);
        edge("BAD.");
        int[][] bad = {{-1, 0}, {1, 0}, {0, -1}, {0, 5}, {LEAST, 0}, {MOST, 0}, {0, LEAST}, {0, MOST}};
        for (int[] a : bad) {
            due("tube(" + a[0] + ", " + a[1] + ")", x.tube(a[0], a[1]), BAD);
        }

        under("Promise 16:");
        edge("Of a ROOM: 0 WARMTH, 1 STOVE, 2 whether COLD (1, 0), 3 TUBES (bits) in it.");
        x = told("h0,5;m5,20;m99,0;p0,1,1;p1,1,1;p2,1,1;p0,1,1;");
        int[][] rooms = {{5, 20, 1, 9}, {99, 0, 0, 2}};
        for (int r = 0; r < rooms.length; r++) {
            for (int what = 0; what < 4; what++) {
                due("room(" + r + ", " + what + ")", x.room(r, what), rooms[r][what]);
            }
        }
        edge("BAD; of THE STEP 3 alone.");
        due("room(2, 3)", x.room(2, 3), 4);
        int[][] none = {{2, 0}, {2, 1}, {2, 2}, {2, 4}, {2, -1}, {3, 3}, {-1, 3}, {0, -1}, {0, 4}, {MOST, 3}, {LEAST, 0}, {0, MOST}};
        for (int[] a : none) {
            due("room(" + a[0] + ", " + a[1] + ")", x.room(a[0], a[1]), BAD);
        }
    }

    private static void promises17To21() {
        WarmTubes x = told("h1,0;m60,0;m61,0;p0,1,2;");
        int[][] bad = {{-1, 0}, {2, 0}, {0, -1}, {0, 61}, {LEAST, 0}, {MOST, 0}, {0, LEAST}, {0, MOST}};
        under("Promise 17:");
        edge("AHEAD: WARMTH. BAD.");
        due("ahead(1, 0)", x.ahead(1, 0), 61);
        due("ahead(1, 60)", x.ahead(1, 60), 1);
        for (int[] a : bad) {
            due("ahead(" + a[0] + ", " + a[1] + ")", x.ahead(a[0], a[1]), BAD);
        }
        under("Promise 18:");
        edge("AHEAD: UP. BAD.");
        due("upAhead(0, 0)", x.upAhead(0, 0), 0);
        due("upAhead(0, 1)", x.upAhead(0, 1), 1);
        due("upAhead(0, 60)", x.upAhead(0, 60), 2);
        for (int[] a : bad) {
            due("upAhead(" + a[0] + ", " + a[1] + ")", x.upAhead(a[0], a[1]), BAD);
        }
        due("upAhead(1, 0)", x.upAhead(1, 0), BAD);
        under("Promise 19:");
        edge("CHILL; NONE. BAD.");
        due("chill(0)", x.chill(0), 58);
        due("chill(1)", x.chill(1), NONE);
        int[] rooms = {-1, 2, LEAST, MOST};
        for (int r : rooms) {
            due("chill(" + r + ")", x.chill(r), BAD);
        }
        under("Promise 20:");
        edge("FIRST: which (what = 0), behind how many (1); NONE.");
        first("h1,0;m60,0;m61,0;p0,1,2;", 0, 58);
        first("h1,0;m62,0;m61,0;p0,1,1;", NONE, NONE);
        edge("BAD; STATE: no HOUSE (ahead of BAD).");
        int[] whats = {-1, 2, LEAST, MOST};
        for (int what : whats) {
            due("first(" + what + ")", x.first(what), BAD);
            due("first(" + what + ") without a HOUSE", new WarmTubes().first(what), STATE);
        }
        due("first(0) without a HOUSE", new WarmTubes().first(0), STATE);
        under("Promise 21:");
        edge("FILLED; NONE. BAD.");
        due("filled(0)", x.filled(0), 2);
        x.carry(0, 2);
        due("filled(0) on THE STEP", x.filled(0), NONE);
        int[] tubes = {-1, 1, LEAST, MOST};
        for (int t : tubes) {
            due("filled(" + t + ")", x.filled(t), BAD);
        }
    }

    private static void promises22To25() {
        WarmTubes x = told("h0,5;m6,0;p0,1,1;");
        int[][] bad = {{-1, 1, 0}, {1, 1, 0}, {0, 0, 0}, {0, 31, 0}, {0, 1, -1}, {0, 1, 2}, {LEAST, 1, 0}, {MOST, 1, 0},
            {0, LEAST, 0}, {0, MOST, 0}, {0, 1, LEAST}, {0, 1, MOST}};
        under("Promise 22:");
        edge("OUT: how many (what = 0), which (1); NONE. BAD.");
        outs(x, 0, 1, 1, 1);
        for (int[] a : bad) {
            due("outs(" + a[0] + ", " + a[1] + ", " + a[2] + ")", x.outs(a[0], a[1], a[2]), BAD);
        }
        x.minutes(1);
        outs(x, 0, 1, NONE, NONE);
        under("Promise 23:");
        edge("SHAKE: how many (what = 0), which (1); NONE. BAD.");
        shakes(x, 0, 1, NONE, NONE);
        for (int[] a : bad) {
            due("shakes(" + a[0] + ", " + a[1] + ", " + a[2] + ")", x.shakes(a[0], a[1], a[2]), BAD);
        }
        x.stove(0, 1);
        shakes(x, 0, 1, 0, 0);
        under("Promise 24:");
        edge("HANG: where (what = 0), how much (1). BAD.");
        hang(x, 0, 1, 0, 1);
        for (int[] a : bad) {
            due("hang(" + a[0] + ", " + a[1] + ", " + a[2] + ")", x.hang(a[0], a[1], a[2]), BAD);
        }
        under("Promise 25:");
        edge("FIRE; NONE. BAD.");
        due("fire(0, 1)", x.fire(0, 1), 1);
        for (int[] a : bad) {
            if (a[2] == 0) {
                due("fire(" + a[0] + ", " + a[1] + ")", x.fire(a[0], a[1]), BAD);
            }
        }
        x = told("h0,60;m0,0;p0,1,1;");
        due("fire(0, 1), too little", x.fire(0, 1), NONE);
        due("fire(0, 4), just enough", x.fire(0, 4), 16);
    }

    private static void promises26To29() {
        under("Promise 26:");
        edge("POUR: how many (k = -1), the k-th (0 on; NONE: not so many); NONE.");
        WarmTubes x = told("h0,0;m99,0;p0,8,8;p0,1,5;p1,1,5;", 1);
        pours(x, 0, 8);
        pours(x, 0, 4, 1);
        due("pours(0, 4, 1)", x.pours(0, 4, 1), NONE);
        due("pours(0, 4, 3)", x.pours(0, 4, 3), NONE);
        due("pours(0, 4, MOST)", x.pours(0, 4, MOST), NONE);
        due("pours(0, 1, -1)", x.pours(0, 1, -1), NONE);
        due("pours(0, 1, MOST)", x.pours(0, 1, MOST), NONE);
        edge("BAD: k below -1, too.");
        int[][] pours = {{-1, 0, 0}, {3, 0, 0}, {0, -1, 0}, {0, 41, 0}, {0, 4, -2}, {0, 4, LEAST}, {MOST, 0, 0}, {0, LEAST, 0},
            {0, MOST, 0}};
        for (int[] a : pours) {
            due("pours(" + a[0] + ", " + a[1] + ", " + a[2] + ")", x.pours(a[0], a[1], a[2]), BAD);
        }

        under("Promise 27:");
        edge("MIX: how many (what = 0), the least (1; NONE). BAD.");
        // 90 in the ROOM, 8 and 1 UP
        mix(x, 0, 90, 1, 0);
        mix(x, 0, 91, 1, 2);
        mix(x, 0, 99, 1, 3);
        mix(x, 0, 97, 0, NONE);
        int[][] mixes = {{-1, 0, 0}, {1, 0, 0}, {0, -1, 0}, {0, 1000, 0}, {0, 0, -1}, {0, 0, 2}, {MOST, 0, 0}, {0, LEAST, 1},
            {0, MOST, 1}, {0, 0, MOST}};
        for (int[] a : mixes) {
            due("mix(" + a[0] + ", " + a[1] + ", " + a[2] + ")", x.mix(a[0], a[1], a[2]), BAD);
        }

        under("Promise 28:");
        edge("DEGREES. STATE: no HOUSE.");
        due("degrees()", x.degrees(), 99);
        due("degrees() without a HOUSE", new WarmTubes().degrees(), STATE);
        due("degrees() of none at all", told(STILL).degrees(), 0);

        under("Promise 29:");
        edge("SALE: when (what = 0), for how much (1). BAD.");
        sale(x, 1, 99, 0, 0, 8 * 99);
        int[][] sales = {{-1, 1, 1, 0, 0}, {3, 1, 1, 0, 0}, {0, 0, 1, 0, 0}, {0, 31, 1, 0, 0}, {0, 1, 0, 0, 0}, {0, 1, 100, 0, 0},
            {0, 1, 1, -1, 0}, {0, 1, 1, 10, 0}, {0, 1, 1, 0, -1}, {0, 1, 1, 0, 2}, {MOST, 1, 1, 0, 0}, {0, MOST, 1, 0, 0},
            {0, 1, MOST, 0, 0}, {0, 1, 1, LEAST, 0}, {0, 1, 1, 0, LEAST}};
        for (int i = 0; i < sales.length; i++) {
            int[] a = sales[i];
            due("sale, wrong row " + i, x.sale(a[0], a[1], a[2], a[3], a[4]), BAD);
        }
    }

    private static void promises30To31() {
        under("Promise 30:");
        edge("KINDS (which = 0), TAKINGS (1), PLACES (2) of a TUBE, by WARMTH of a ROOM, n ITEMS of a ROW from i on.");
        WarmTubes x = told("h0,0;m20,0;m30,0;p1,5,40;");
        x.row(0, 2, 40);
        x.set(0, 39, 25);
        due("KINDS by the last ITEM", x.who(0, 0, 1, 0, 39, 1), 62);
        due("TAKINGS by the last ITEM", x.who(0, 1, 1, 0, 39, 1), 32);
        due("PLACES by the last ITEM", x.who(0, 2, 1, 0, 39, 1), 2);
        due("PLACES by ITEM 38", x.who(0, 2, 1, 0, 38, 1), 0);
        edge("BAD: TUBE, which, ROOM, ROW, n; NULL; PLACE.");
        int[][] who = {{-1, 0, 0, 0, 0, 1}, {1, 0, 0, 0, 0, 1}, {0, -1, 0, 0, 0, 1}, {0, 3, 0, 0, 0, 1}, {0, 0, -1, 0, 0, 1},
            {0, 0, 2, 0, 0, 1}, {0, 0, 0, -1, 0, 1}, {0, 0, 0, 8, 0, 1}, {0, 0, 0, 0, 0, 0}, {0, 0, 0, 0, 0, 13},
            {0, 0, 0, 0, 0, -1}, {0, 0, 0, 1, 99, 13}, {0, 0, 0, 0, -1, MOST}};
        for (int i = 0; i < who.length; i++) {
            int[] a = who[i];
            due("who, wrong row " + i, x.who(a[0], a[1], a[2], a[3], a[4], a[5]), BAD);
        }
        due("who by a missing ROW", x.who(0, 0, 0, 1, 99, 1), NULL);
        int[][] places = {{-1, 1}, {40, 1}, {39, 2}, {29, 12}, {LEAST, 1}, {MOST, 12}};
        for (int[] a : places) {
            due("who from " + a[0] + " on, " + a[1], x.who(0, 0, 0, 0, a[0], a[1]), PLACE);
        }
        due("who to the end", x.who(0, 0, 0, 0, 28, 12), 0);
        x.row(2, 0, 0);
        due("who by an empty ROW", x.who(0, 0, 0, 2, 0, 1), PLACE);

        under("Promise 31:");
        edge("FROSTS (which = 0), SHAKEN (1), n ITEMS of a ROW from i on.");
        due("FROSTS by the last ITEM", x.frosts(1, 0, 0, 39, 1), 1);
        due("SHAKEN by the last ITEM", x.frosts(1, 1, 0, 39, 1), 65);
        due("SHAKEN by ITEM 38", x.frosts(1, 1, 0, 38, 1), 0);
        edge("BAD: ROOM, which, ROW, n; NULL; PLACE.");
        int[][] frosts = {{-1, 0, 0, 0, 1}, {2, 0, 0, 0, 1}, {0, -1, 0, 0, 1}, {0, 2, 0, 0, 1}, {0, 0, -1, 0, 1}, {0, 0, 8, 0, 1},
            {0, 0, 0, 0, 0}, {0, 0, 0, 0, 13}, {0, 0, 0, 0, -1}, {0, 0, 1, 99, 13}, {0, 0, 0, -1, MOST}};
        for (int i = 0; i < frosts.length; i++) {
            int[] a = frosts[i];
            due("frosts, wrong row " + i, x.frosts(a[0], a[1], a[2], a[3], a[4]), BAD);
        }
        due("frosts by a missing ROW", x.frosts(0, 0, 1, 99, 1), NULL);
        for (int[] a : places) {
            due("frosts from " + a[0] + " on, " + a[1], x.frosts(0, 0, 0, a[0], a[1]), PLACE);
        }
        due("frosts to the end", x.frosts(0, 1, 0, 28, 12), 0);
        due("frosts by an empty ROW", x.frosts(0, 0, 2, 0, 1), PLACE);
    }

    private static void promises32To35() {
        under("Promise 32:");
        edge("FORGOTTEN: above (what = 0), below (1). BAD.");
        WarmTubes x = told("h0,5;m6,0;p0,1,1;");
        likely(x, 1, 6, 2, 5);
        likely(x, 30, 0, 1, 1);
        int[][] bad = {{-1, 0, 0, 0}, {1, 0, 0, 0}, {0, -1, 0, 0}, {0, 31, 0, 0}, {0, 0, -1, 0}, {0, 0, 11, 0}, {0, 0, 0, -1},
            {0, 0, 0, 2}, {MOST, 0, 0, 0}, {0, LEAST, 0, 0}, {0, 0, MOST, 0}, {0, 0, 0, LEAST}};
        for (int i = 0; i < bad.length; i++) {
            int[] a = bad[i];
            due("forgotten, wrong row " + i, x.forgotten(a[0], a[1], a[2], a[3]), BAD);
        }

        under("Promise 33:");
        edge("WINTERS by a SEED (1 to 999999): how many (what = 0), DEGREES (1).");
        x = told("h0,60;m50,0;m61,0;m60,0;p3,1,1;");
        due("drawn(0, 1, 0)", x.drawn(0, 1, 0), 2);
        due("drawn(0, 1, 1)", x.drawn(0, 1, 1), 171);
        due("drawn(60, 1, 1)", x.drawn(60, 1, 1), 171);
        due("drawn(60, 999999, 1)", x.drawn(60, 999999, 1), 171);
        edge("BAD; STATE: no HOUSE (ahead of BAD).");
        int[][] drawn = {{-1, 1, 0}, {61, 1, 0}, {0, 0, 0}, {0, 1000000, 0}, {0, 1, -1}, {0, 1, 2}, {MOST, 1, 0}, {LEAST, 1, 0},
            {0, LEAST, 0}, {0, MOST, 0}, {0, 1, MOST}};
        for (int[] a : drawn) {
            due("drawn(" + a[0] + ", " + a[1] + ", " + a[2] + ")", x.drawn(a[0], a[1], a[2]), BAD);
            due("the same without a HOUSE", new WarmTubes().drawn(a[0], a[1], a[2]), STATE);
        }
        due("drawn(0, 1, 0) without a HOUSE", new WarmTubes().drawn(0, 1, 0), STATE);

        under("Promise 34:");
        edge("An IMAGE (0, 1) is kept of the HOUSE: 1.");
        x = told(ALL_SORTS, 1);
        due("image(0)", x.image(0), 1);
        String first = sight(x);
        x.minutes(1);
        due("image(1)", x.image(1), 1);
        String second = sight(x);
        due("count(6) behind image", x.count(6), 2);
        edge("BAD; STATE: no HOUSE.");
        int[] numbers = {-1, 2, LEAST, MOST};
        for (int k : numbers) {
            due("image(" + k + ")", x.image(k), BAD);
            due("image(" + k + ") without a HOUSE", new WarmTubes().image(k), BAD);
        }
        due("image(0) without a HOUSE", new WarmTubes().image(0), STATE);

        under("Promise 35:");
        edge("The HOUSE is as an IMAGE kept it (no ACT can be undone then): 1.");
        tell(x, RISING);
        x.minutes(3);
        due("restore(0)", x.restore(0), 1);
        due("undo() then", x.undo(), STATE);
        due("count(6) then", x.count(6), 0);
        x.minutes(1);
        due("undo() of a new ACT", x.undo(), 0);
        images(first, second);
        edge("BAD; STATE: none was kept.");
        x = told(STILL);
        x.image(1);
        for (int k : numbers) {
            due("restore(" + k + ")", x.restore(k), BAD);
        }
        due("restore(0), none kept", x.restore(0), STATE);
        due("restore(1) without a HOUSE", new WarmTubes().restore(1), STATE);
    }

    private static void images(String first, String second) {
        WarmTubes x = told(ALL_SORTS, 1);
        x.image(0);
        x.minutes(1);
        x.image(1);
        x.restore(0);
        // all but how many ACTS can be undone
        due("the first IMAGE", differences(sight(x), first), 1);
        x.restore(1);
        due("the second IMAGE", differences(sight(x), second), 1);
        tell(x, STILL);
        x.restore(0);
        due("the first IMAGE behind another HOUSE", differences(sight(x), first), 1);
        x.stove(0, 20);
        x.image(0);
        x.restore(1);
        x.restore(0);
        due("an IMAGE in place of another", x.room(0, 1), 20);
    }

    private static int differences(String one, String other) {
        String[] a = one.split(" ");
        String[] b = other.split(" ");
        int many = Math.abs(a.length - b.length);
        for (int i = 0; i < Math.min(a.length, b.length); i++) {
            many += a[i].equals(b[i]) ? 0 : 1;
        }
        return many;
    }

    private static void promises36To41() {
        WarmTubes x = told(ALL_SORTS);
        int[] none = {-1, 5, LEAST, MOST};
        under("Promise 36:");
        edge("The KIND of a TUBE, as told (1 to 5). BAD.");
        for (int t = 0; t < 5; t++) {
            due("kind(" + t + ")", x.kind(t), t + 1);
        }
        for (int t : none) {
            due("kind(" + t + ")", x.kind(t), BAD);
        }
        under("Promise 37:");
        edge("A TUBE is taken as one of a KIND (0 .. 5): its number.");
        due("as(4, 0)", x.as(4, 0), 4);
        due("as(4, 5)", x.as(4, 5), 4);
        edge("BAD; KIND: it is no such one.");
        int[] kinds = {-1, 6, LEAST, MOST};
        for (int kind : kinds) {
            due("as(0, " + kind + ")", x.as(0, kind), BAD);
        }
        for (int t : none) {
            due("as(" + t + ", 0)", x.as(t, 0), BAD);
        }
        due("as(0, 5)", x.as(0, 5), KIND);
        due("as(3, 5)", x.as(3, 5), KIND);
        due("as(4, 1)", x.as(4, 1), KIND);
        under("Promise 38:");
        edge("An ASK (0, 1) of a TUBE. BAD.");
        due("ask(3, 0)", x.ask(3, 0), -88);
        due("ask(3, 1)", x.ask(3, 1), 91);
        int[] whats = {-1, 2, LEAST, MOST};
        for (int what : whats) {
            due("ask(0, " + what + ")", x.ask(0, what), BAD);
        }
        for (int t : none) {
            due("ask(" + t + ", 0)", x.ask(t, 0), BAD);
        }
        edge("THE TRACE is empty ahead of it.");
        asked(x, 1, 0, -(25 + 2), 12, 11, 10, 24, 21, 20);
        asked(x, 3, 0, -88, 13, 10);
        under("Promise 39:");
        edge("Number i of THE TRACE; NONE.");
        traced(x, 13, 10);
        for (int i : none) {
            due("trace(" + i + ")", x.trace(i), NONE);
        }
        due("trace(15)", x.trace(15), NONE);
        due("trace(16)", x.trace(16), NONE);
        due("trace(0) of a new object", new WarmTubes().trace(0), NONE);
        counts();
        statuses();
    }

    private static void counts() {
        under("Promise 40:");
        edge("How many: 0 ROWS, 1 ROOMS, 2 TUBES, 3 MINUTE, 4 which ROOMS are COLD (bits), 5 all that is UP, 6 ACTS that can be "
            + "undone, 7 bytes on the tape.");
        WarmTubes x = new WarmTubes();
        for (int what = 0; what < 8; what++) {
            due("count(" + what + ") of a new object", x.count(what), 0);
        }
        tell(x, "h0,0;m9,0;m0,0;m0,0;m0,0;m0,0;p0,4,4;" + "p5,1,1;".repeat(5));
        x.minutes(2);
        x.carry(0, 5);
        x.feed('h');
        for (int row = 0; row < 8; row++) {
            x.row(row, 0, 0);
        }
        int[] counts = {8, 5, 6, 2, 30, 4, 3, 1};
        for (int what = 0; what < 8; what++) {
            due("count(" + what + ")", x.count(what), counts[what]);
        }
        edge("BAD.");
        int[] bad = {-1, 8, LEAST, MOST};
        for (int what : bad) {
            due("count(" + what + ")", x.count(what), BAD);
        }
    }

    private static void statuses() {
        under("Promise 41:");
        edge("Of the latest call with a ROW, or as(), that was not BAD, STATE, FULL: the number of its FINDING;");
        WarmTubes x = told(ALL_SORTS);
        x.row(0, 0, -1);
        due("status() of SIZE", x.status(), 4);
        due("status() again", x.status(), 4);
        x.drop(0);
        due("status() of NULL", x.status(), 1);
        x.as(0, 2);
        due("status() of KIND", x.status(), 3);
        x.row(9, 0, 0);
        x.set(9, 0, 0);
        x.copy(9, 0, 0, 0, 0);
        x.drop(9);
        x.who(9, 0, 0, 0, 0, 1);
        x.frosts(9, 0, 0, 0, 1);
        x.as(9, 0);
        due("status() behind BAD", x.status(), 3);
        x.minutes(1);
        x.undo();
        x.undo();
        x.house();
        x.image(0);
        x.restore(0);
        x.ask(0, 0);
        due("status() behind calls without a ROW", x.status(), 3);

        edge("0: it had none, or there was none.");
        due("status() of a new object", new WarmTubes().status(), 0);
        for (int call = 0; call < 7; call++) {
            x.as(0, 2);
            due("status() ahead of call " + call, x.status(), 3);
            switch (call) {
                case 0: x.row(0, 0, 1); break;
                case 1: x.set(0, 0, 1); break;
                case 2: x.copy(0, 0, 0, 0, 1); break;
                case 3: x.who(0, 0, 0, 0, 0, 1); break;
                case 4: x.frosts(0, 0, 0, 0, 1); break;
                case 5: x.as(0, 1); break;
                default: x.drop(0); break;
            }
            due("status() behind call " + call, x.status(), 0);
        }
        x.row(1, 0, 1);
        x.row(2, 1, 1);
        x.set(1, 1, 0);
        due("status() of PLACE", x.status(), 2);
        x.copy(1, 0, 2, 0, 0);
        due("status() of STORE", x.status(), 5);
        x.copy(1, 0, 1, 0, 2);
        due("status() of PLACE of copy", x.status(), 2);
        x.who(0, 0, 0, 3, 0, 1);
        due("status() of NULL of who", x.status(), 1);
        x.frosts(0, 0, 1, 1, 1);
        due("status() of PLACE of frosts", x.status(), 2);
    }
}
