/** For each promise of the document: answers worked out by hand, its edges, and wrong inputs. */
public final class PromisesTest {
    private static final int NONE = -1000000, BAD = -1000001, STATE = -1000002, FULL = -1000003;
    private static final int NULL = -1000011, PLACE = -1000012, KIND = -1000013, SIZE = -1000014, STORE = -1000015;
    private static final int LEAST = Integer.MIN_VALUE, MOST = Integer.MAX_VALUE;

    /** Two ROOMS and a TUBE of each SORT, one more on THE STEP. */
    private static final String ALL_SORTS = "h1,10;m40,3;m25,0;p0,3,10;g0,4,25;s1,5,8;w1,2,12;l0,2,6;p2,9,40;";
    private static final String TWO_PLAIN = "h2,5;m20,0;m50,3;p0,4,40;p0,3,40;";
    /** WARMTH is 2, 3, 4, .. behind each MINUTE: by it ITEMS of a ROW can be seen. */
    private static final String RISING = "h0,0;m1,1;p1,1,1;";

    private static int wrong = 0;
    private static String promise = "";

    private static void due(String what, long got, long want) {
        if (got != want) {
            wrong++;
            System.out.println("promise " + promise + ": " + what + " answered " + got + ", due is " + want);
        }
    }

    private static int feed(WarmTubes x, String text) {
        int many = x.count(7);
        for (int i = 0; i < text.length(); i++) {
            many = x.feed(text.charAt(i));
        }
        return many;
    }

    private static int tell(WarmTubes x, String text) {
        feed(x, text);
        return x.house();
    }

    private static WarmTubes told(String text) {
        WarmTubes x = new WarmTubes();
        if (tell(x, text) < 0) {
            due("house() of " + text, -1, 0);
        }
        return x;
    }

    private static void lay(WarmTubes x, int row, int lane, int... items) {
        x.row(row, lane, items.length);
        for (int i = 0; i < items.length; i++) {
            x.set(row, i, items[i]);
        }
    }

    private static void rising(String what, WarmTubes x, int row, int i, int n, boolean isSo) {
        due(what, x.frosts(0, 1, row, i, n), isSo ? 65 : 0);
    }

    private static void traced(WarmTubes x, int... bodies) {
        for (int i = 0; i < bodies.length; i++) {
            due("trace(" + i + ")", x.trace(i), bodies[i]);
        }
        due("trace behind the last", x.trace(bodies.length), NONE);
    }

    public static void main(String[] args) {
        newObject();
        rows();
        copies();
        tapes();
        faults();
        undone();
        minutes();
        acts();
        looks();
        ahead();
        outsAndShakes();
        hangAndFire();
        poursAndMix();
        sales();
        whos();
        frosts();
        forgotten();
        drawn();
        images();
        kinds();
        asks();
        status();
        corners();
        System.out.println(wrong == 0 ? "all promises are kept" : wrong + " answers are not as due");
        if (wrong != 0) {
            System.exit(1);
        }
    }

    private static void newObject() {
        promise = "1";
        WarmTubes x = new WarmTubes();
        for (int what = 0; what < 8; what++) {
            due("count(" + what + ")", x.count(what), 0);
        }
        due("degrees()", x.degrees(), STATE);
        due("status()", x.status(), 0);
        due("fault()", x.fault(), 0);
        due("undo()", x.undo(), STATE);
        due("trace(0)", x.trace(0), NONE);
        due("room(0, 3)", x.room(0, 3), BAD);
        due("minutes(0)", x.minutes(0), STATE);
        due("first(2)", x.first(2), STATE);
        due("drawn(-1, 0, 2)", x.drawn(-1, 0, 2), STATE);
    }

    private static void rows() {
        WarmTubes x = told(RISING);
        promise = "2";
        due("row(0, 0, 0)", x.row(0, 0, 0), 0);
        due("row(7, 2, 40)", x.row(7, 2, 40), 40);
        due("count(0)", x.count(0), 2);
        due("row(8, 0, 1)", x.row(8, 0, 1), BAD);
        due("row(-1, 0, 1)", x.row(-1, 0, 1), BAD);
        due("row(0, 3, 1)", x.row(0, 3, 1), BAD);
        due("row(0, -1, 1)", x.row(0, -1, 1), BAD);
        due("row(0, 0, 41)", x.row(0, 0, 41), BAD);
        due("row(0, 3, -1)", x.row(0, 3, -1), BAD);
        due("row(0, 0, LEAST)", x.row(0, 0, LEAST), SIZE);
        due("row(1, 0, -1)", x.row(1, 0, -1), SIZE);
        due("count(0) behind SIZE", x.count(0), 2);
        lay(x, 1, 0, 2, 3);
        due("row(1, 2, -1)", x.row(1, 2, -1), SIZE);
        rising("a ROW behind SIZE", x, 1, 0, 2, true);
        due("row(1, 0, 2)", x.row(1, 0, 2), 2);
        rising("a new ROW", x, 1, 0, 2, false);
        promise = "3";
        due("set(1, 0, 127)", x.set(1, 0, 127), 127);
        due("set(1, 0, 128)", x.set(1, 0, 128), -128);
        due("set(1, 0, 511)", x.set(1, 0, 511), -1);
        due("set(1, 2, 0)", x.set(1, 2, 0), PLACE);
        due("set(1, -1, 0)", x.set(1, -1, 0), PLACE);
        due("set(1, LEAST, 0)", x.set(1, LEAST, 0), PLACE);
        due("set(1, MOST, 0)", x.set(1, MOST, 0), PLACE);
        due("set(0, 0, 0)", x.set(0, 0, 0), PLACE);
        due("set(2, 0, 0)", x.set(2, 0, 0), NULL);
        due("set(8, 0, 0)", x.set(8, 0, 0), BAD);
        due("set(-1, 0, 0)", x.set(-1, 0, 0), BAD);
        x.row(2, 1, 1);
        due("set(2, 0, 32768)", x.set(2, 0, 32768), -32768);
        due("set(2, 0, 65541)", x.set(2, 0, 65541), 5);
        due("set(7, 39, LEAST)", x.set(7, 39, LEAST), LEAST);
        due("set(7, 40, 1)", x.set(7, 40, 1), PLACE);
        promise = "5";
        due("drop(7)", x.drop(7), 40);
        due("drop(7) again", x.drop(7), NULL);
        due("drop(0)", x.drop(0), 0);
        due("drop(8)", x.drop(8), BAD);
        due("drop(-1)", x.drop(-1), BAD);
        due("count(0)", x.count(0), 2);
    }

    private static void copies() {
        promise = "4";
        WarmTubes x = told(RISING);
        lay(x, 0, 2, 9, 2, 3, 4, 5, 0);
        due("copy(0, 1, 0, 0, 4)", x.copy(0, 1, 0, 0, 4), 4);
        rising("to the front", x, 0, 0, 4, true);
        due("copy(0, 0, 0, 1, 4)", x.copy(0, 0, 0, 1, 4), 4);
        rising("to the back", x, 0, 1, 4, true);
        lay(x, 1, 2, 7, 7, 7, 7);
        due("copy(0, 1, 1, 1, 3)", x.copy(0, 1, 1, 1, 3), 3);
        rising("to another", x, 1, 1, 3, true);
        rising("what stood ahead of it", x, 1, 0, 1, false);
        due("copy(0, 6, 1, 4, 0)", x.copy(0, 6, 1, 4, 0), 0);
        due("copy(0, 7, 1, 4, 0)", x.copy(0, 7, 1, 4, 0), PLACE);
        due("copy(0, 0, 1, 5, 0)", x.copy(0, 0, 1, 5, 0), PLACE);
        due("copy(0, 0, 1, 0, 5)", x.copy(0, 0, 1, 0, 5), PLACE);
        due("copy(1, 0, 0, 0, 5)", x.copy(1, 0, 0, 0, 5), PLACE);
        due("copy(0, -1, 1, 0, 1)", x.copy(0, -1, 1, 0, 1), PLACE);
        due("copy(0, 0, 1, -1, 1)", x.copy(0, 0, 1, -1, 1), PLACE);
        due("copy(0, 0, 1, 0, -1)", x.copy(0, 0, 1, 0, -1), PLACE);
        due("copy(0, MOST, 1, 0, MOST)", x.copy(0, MOST, 1, 0, MOST), PLACE);
        due("copy(0, 1, 1, MOST, 1)", x.copy(0, 1, 1, MOST, 1), PLACE);
        due("copy(0, LEAST, 1, LEAST, LEAST)", x.copy(0, LEAST, 1, LEAST, LEAST), PLACE);
        x.row(2, 1, 4);
        due("copy(0, -1, 2, 0, 9)", x.copy(0, -1, 2, 0, 9), STORE);
        due("copy(2, 0, 0, 0, 0)", x.copy(2, 0, 0, 0, 0), STORE);
        due("copy(0, -1, 3, 0, 9)", x.copy(0, -1, 3, 0, 9), NULL);
        due("copy(3, 0, 2, 0, 1)", x.copy(3, 0, 2, 0, 1), NULL);
        due("copy(8, 0, 3, 0, 1)", x.copy(8, 0, 3, 0, 1), BAD);
        due("copy(3, 0, -1, 0, 1)", x.copy(3, 0, -1, 0, 1), BAD);
        rising("what refused copies leave", x, 1, 1, 3, true);
    }

    private static void tapes() {
        promise = "6";
        WarmTubes x = new WarmTubes();
        due("feed(-1)", x.feed(-1), BAD);
        due("feed(256)", x.feed(256), BAD);
        for (int i = 1; i <= 120; i++) {
            due("feed(255)", x.feed(255), i);
        }
        due("feed(0) on a full tape", x.feed(0), FULL);
        due("feed(256) on a full tape", x.feed(256), BAD);
        due("count(7)", x.count(7), 120);
        promise = "7";
        due("house()", x.house(), -1000100);
        due("count(7)", x.count(7), 0);
        due("tell", tell(x, ALL_SORTS), 6);
        due("count(1)", x.count(1), 2);
        due("count(7)", x.count(7), 0);
        x.minutes(3);
        due("a FAULT", tell(x, "h1,1;x"), -1000105);
        due("degrees() behind a FAULT", x.degrees(), 68);
        due("count(6) behind a FAULT", x.count(6), 3);
        due("another", tell(x, TWO_PLAIN), 2);
        due("count(3)", x.count(3), 0);
        due("count(5)", x.count(5), 0);
        due("count(6)", x.count(6), 0);
        due("degrees()", x.degrees(), 70);
        due("undo()", x.undo(), STATE);
    }

    private static void faulty(WarmTubes x, String text, int place, int number) {
        due("house() of " + text, tell(x, text), -1000100 - place);
        due("fault() of " + text, x.fault(), number);
    }

    private static void faults() {
        promise = "8";
        WarmTubes x = new WarmTubes();
        faulty(x, "", 0, 1);
        faulty(x, " h1,1;", 0, 1);
        faulty(x, "m1,1;", 0, 1);
        faulty(x, "h,", 1, 1);
        faulty(x, "h10,0;", 1, 2);
        faulty(x, "h100,0;", 1, 1);
        faulty(x, "h1;", 2, 1);
        faulty(x, "h1,61;", 3, 2);
        faulty(x, "h1,060;", 3, 1);
        faulty(x, "h1,1,", 4, 1);
        faulty(x, "h1,1;p0,1,1;", 5, 1);
        faulty(x, "h1,1;m99,21;", 9, 2);
        faulty(x, "h1,1;m1,1;", 10, 1);
        faulty(x, "h1,1;m1,1;q", 10, 1);
        faulty(x, "h1,1;m1,1;p2,1,1;", 11, 2);
        faulty(x, "h1,1;m1,1;p1,0,1;", 13, 2);
        faulty(x, "h1,1;m1,1;p1,1,41;", 15, 2);
        faulty(x, "h1,1;m1,1;p1,1,1", 16, 1);
        faulty(x, "h1,1;m1,1;p1,1,1;m1,1;", 17, 1);
        faulty(x, "h1,1;m1,1;p1,1,1;;", 17, 1);
        faulty(x, "h1,1;m1,1;m1,1;m1,1;m1,1;m1,1;m1,1;", 30, 3);
        faulty(x, "h1,1;m1,1;p1,1,1;p1,1,1;p1,1,1;p1,1,1;p1,1,1;p1,1,1;p1,1,1;", 52, 3);
        faulty(x, "h1,1;m1,1;p1,1,1;p1,1,1;p1,1,1;p1,1,1;p1,1,1;p1,1,1;h", 52, 1);
        due("a HOUSE with 00", tell(x, "h00,07;m09,0;p01,01,01;"), 1);
        due("fault() stays", x.fault(), 1);
        due("tube(0, 2)", x.tube(0, 2), 1);
    }

    private static void undone() {
        promise = "9";
        WarmTubes x = told(ALL_SORTS);
        due("undo() of nothing", x.undo(), STATE);
        x.minutes(3);
        x.carry(0, 1);
        x.shake(1);
        x.stove(1, 7);
        due("count(6)", x.count(6), 6);
        due("undo() of a STOVE", x.undo(), 5);
        due("room(1, 1)", x.room(1, 1), 0);
        due("undo() of a SHAKEN one", x.undo(), 4);
        due("tube(1, 3)", x.tube(1, 3), 12);
        due("room(0, 0)", x.room(0, 0), 21);
        due("undo() of a carried one", x.undo(), 3);
        due("tube(0, 0)", x.tube(0, 0), 0);
        x.pour(0, 1);
        due("undo() of a POURED one", x.undo(), 3);
        due("tube(0, 3)", x.tube(0, 3), 9);
        due("undo() of a MINUTE", x.undo(), 2);
        due("room(1, 0)", x.room(1, 0), 14);
        due("count(3)", x.count(3), 2);
        x.minutes(24);
        due("count(6) of many", x.count(6), 24);
        x.minutes(1);
        for (int left = 23; left >= 0; left--) {
            due("undo()", x.undo(), left);
        }
        due("undo() of the forgotten", x.undo(), STATE);
        due("count(3) of the oldest", x.count(3), 3);
        due("room(0, 0) of the oldest", x.room(0, 0), 21);
    }

    private static void minutes() {
        promise = "10";
        WarmTubes x = told(ALL_SORTS);
        due("minutes(0)", x.minutes(0), BAD);
        due("minutes(25)", x.minutes(25), BAD);
        due("minutes(2)", x.minutes(2), 0);
        due("minutes(1)", x.minutes(1), 2);
        int[] up = {9, 12, 8, 6, 4, 0};
        for (int t = 0; t < up.length; t++) {
            due("UP in " + t, x.tube(t, 3), up[t]);
        }
        due("room(0, 0)", x.room(0, 0), 21);
        due("room(1, 0)", x.room(1, 0), 8);
        x.minutes(3);
        due("a leaking one in a COLD room", x.tube(4, 3), 5);
        due("room(0, 0) behind 6", x.room(0, 0), 12);
        for (int i = 0; i < 41; i++) {
            x.minutes(24);
        }
        due("count(3)", x.count(3), 990);
        due("minutes(10)", x.minutes(10), FULL);
        due("minutes(25) late", x.minutes(25), BAD);
        due("count(3) behind FULL", x.count(3), 990);
        due("minutes(9)", x.minutes(9), 2);
        due("count(3) at the end", x.count(3), 999);
        due("minutes(1) behind the end", x.minutes(1), FULL);
        due("ahead(1, 60) behind the end", x.ahead(1, 60), 0);
        due("WARMTH at most", x.room(0, 0), 999);
    }

    private static void acts() {
        WarmTubes x = told(ALL_SORTS);
        x.minutes(3);
        promise = "12";
        due("shake(4)", x.shake(4), 4);
        due("room(0, 0)", x.room(0, 0), 25);
        due("tube(4, 3)", x.tube(4, 3), 0);
        due("shake(4) again", x.shake(4), STATE);
        due("shake(5)", x.shake(5), STATE);
        due("shake(6)", x.shake(6), BAD);
        due("shake(-1)", x.shake(-1), BAD);
        promise = "13";
        due("pour(0, 1)", x.pour(0, 1), 9);
        due("pour(0, 1) again", x.pour(0, 1), STATE);
        due("pour(1, 0)", x.pour(1, 0), 10);
        due("tube(0, 3)", x.tube(0, 3), 10);
        due("tube(1, 3)", x.tube(1, 3), 11);
        due("pour(1, 0) into a full one", x.pour(1, 0), STATE);
        due("pour(0, 2) elsewhere", x.pour(0, 2), STATE);
        due("pour(0, 0)", x.pour(0, 0), BAD);
        due("pour(0, 6)", x.pour(0, 6), BAD);
        due("pour(-1, 0)", x.pour(-1, 0), BAD);
        promise = "11";
        due("carry(1, 2)", x.carry(1, 2), 0);
        due("carry(1, 2) again", x.carry(1, 2), STATE);
        due("carry(1, 3)", x.carry(1, 3), BAD);
        due("carry(1, -1)", x.carry(1, -1), BAD);
        due("carry(6, 0)", x.carry(6, 0), BAD);
        due("pour(1, 5) on THE STEP", x.pour(1, 5), 11);
        due("degrees()", x.degrees(), 68);
        due("shake(5) on THE STEP", x.shake(5), 11);
        due("degrees() behind it", x.degrees(), 57);
        due("carry(1, 1)", x.carry(1, 1), 2);
        promise = "14";
        due("stove(1, 20)", x.stove(1, 20), 0);
        due("stove(1, 0)", x.stove(1, 0), 20);
        due("stove(1, 21)", x.stove(1, 21), BAD);
        due("stove(1, -1)", x.stove(1, -1), BAD);
        due("stove(2, 1)", x.stove(2, 1), BAD);
        due("count(6)", x.count(6), 3 + 1 + 2 + 2 + 1 + 1 + 2);
    }

    private static void looks() {
        WarmTubes x = told(ALL_SORTS);
        promise = "15";
        int[][] first = {{0, 3, 10, 0, 3}, {0, 4, 25, 0, 4}, {1, 5, 8, 0, 5}, {1, 2, 12, 0, 2}, {0, 2, 6, 0, 2}, {2, 9, 40, 0, 9}};
        for (int t = 0; t < first.length; t++) {
            for (int what = 0; what < 5; what++) {
                due("tube(" + t + ", " + what + ")", x.tube(t, what), first[t][what]);
            }
        }
        due("tube(0, 5)", x.tube(0, 5), BAD);
        due("tube(0, -1)", x.tube(0, -1), BAD);
        due("tube(6, 0)", x.tube(6, 0), BAD);
        due("tube(-1, 0)", x.tube(-1, 0), BAD);
        x.minutes(3);
        int[] wants = {3, 5, 0, 0, 2, 9};
        for (int t = 0; t < wants.length; t++) {
            due("tube(" + t + ", 4) later", x.tube(t, 4), wants[t]);
        }
        x.carry(4, 2);
        due("tube(4, 4) on THE STEP", x.tube(4, 4), 0);
        promise = "16";
        due("room(0, 0)", x.room(0, 0), 21);
        due("room(0, 1)", x.room(0, 1), 3);
        due("room(0, 2)", x.room(0, 2), 0);
        due("room(1, 2)", x.room(1, 2), 1);
        due("room(0, 3)", x.room(0, 3), 3);
        due("room(1, 3)", x.room(1, 3), 12);
        due("room(2, 3)", x.room(2, 3), 48);
        for (int what = 0; what < 3; what++) {
            due("room(2, " + what + ")", x.room(2, what), BAD);
        }
        due("room(0, 4)", x.room(0, 4), BAD);
        due("room(2, 4)", x.room(2, 4), BAD);
        due("room(0, -1)", x.room(0, -1), BAD);
        due("room(3, 3)", x.room(3, 3), BAD);
        due("room(-1, 3)", x.room(-1, 3), BAD);
        promise = "40";
        int[] counts = {0, 2, 6, 3, 2, 39, 4, 0};
        for (int what = 0; what < counts.length; what++) {
            due("count(" + what + ")", x.count(what), counts[what]);
        }
        due("count(8)", x.count(8), BAD);
        due("count(-1)", x.count(-1), BAD);
        promise = "28";
        due("degrees()", x.degrees(), 68);
    }

    private static void ahead() {
        WarmTubes x = told(ALL_SORTS);
        int[] warm = {40, 33, 27, 21, 16, 12, 12, 13, 15, 17};
        int[] greedy = {0, 4, 8, 12, 17, 22, 25, 25, 25, 25};
        for (int n = 0; n < warm.length; n++) {
            promise = "17";
            due("ahead(0, " + n + ")", x.ahead(0, n), warm[n]);
            promise = "18";
            due("upAhead(1, " + n + ")", x.upAhead(1, n), greedy[n]);
        }
        promise = "17";
        due("ahead(0, 60)", x.ahead(0, 60), 17 + 51 * 2);
        due("ahead(0, 61)", x.ahead(0, 61), BAD);
        due("ahead(0, -1)", x.ahead(0, -1), BAD);
        due("ahead(2, 1)", x.ahead(2, 1), BAD);
        promise = "18";
        due("upAhead(5, 60)", x.upAhead(5, 60), 0);
        due("upAhead(5, 61)", x.upAhead(5, 61), BAD);
        due("upAhead(5, -1)", x.upAhead(5, -1), BAD);
        due("upAhead(6, 1)", x.upAhead(6, 1), BAD);
        promise = "19";
        due("chill(0)", x.chill(0), NONE);
        due("chill(1)", x.chill(1), 3);
        due("chill(2)", x.chill(2), BAD);
        due("chill(-1)", x.chill(-1), BAD);
        promise = "20";
        due("first(0)", x.first(0), 1);
        due("first(1)", x.first(1), 3);
        due("first(2)", x.first(2), BAD);
        due("first(-1)", x.first(-1), BAD);
        promise = "21";
        int[] filled = {4, 6, 3, NONE, 5, NONE};
        for (int t = 0; t < filled.length; t++) {
            due("filled(" + t + ")", x.filled(t), filled[t]);
        }
        due("filled(6)", x.filled(6), BAD);
        due("count(3) behind all that", x.count(3), 0);
        edgesOfAhead();
    }

    private static void edgesOfAhead() {
        WarmTubes x = told("h1,0;m60,0;m61,0;m60,0;p3,1,1;");
        promise = "19";
        due("chill at the last MINUTE", x.chill(0), 60);
        due("chill behind the last MINUTE", x.chill(1), NONE);
        promise = "20";
        due("the first of two", x.first(0), 0);
        due("behind how many", x.first(1), 60);
        tell(x, "h1,0;m61,0;p1,1,1;");
        due("none", x.first(0), NONE);
        due("behind none", x.first(1), NONE);
        tell(x, "h0,5;m6,0;m5,0;m5,0;p3,1,1;");
        due("at once", x.first(0), 1);
        due("behind nothing", x.first(1), 0);
        promise = "21";
        tell(x, "h0,0;m0,1;p0,1,30;s0,1,30;");
        due("filled in the 31st", x.filled(0), 31);
        tell(x, "h0,0;m99,20;s0,1,30;s0,1,31;");
        due("a slow one in the 59th", x.filled(0), 59);
        due("a slow one never in time", x.filled(1), NONE);
        x.minutes(1);
        due("a slow one in the last MINUTE", x.filled(1), 60);
    }

    private static void outsAndShakes() {
        promise = "22";
        WarmTubes x = told(TWO_PLAIN);
        due("outs(0, 1, 0)", x.outs(0, 1, 0), 0);
        due("outs(0, 2, 0)", x.outs(0, 2, 0), 1);
        due("outs(0, 2, 1)", x.outs(0, 2, 1), 1);
        due("outs(0, 3, 0)", x.outs(0, 3, 0), 2);
        due("outs(0, 3, 1)", x.outs(0, 3, 1), 3);
        due("outs(0, 7, 1)", x.outs(0, 7, 1), 3);
        due("outs(0, 8, 0)", x.outs(0, 8, 0), NONE);
        due("outs(0, 8, 1)", x.outs(0, 8, 1), NONE);
        due("outs(1, 30, 0)", x.outs(1, 30, 0), 0);
        due("outs(1, 30, 1)", x.outs(1, 30, 1), 0);
        due("outs(0, 0, 0)", x.outs(0, 0, 0), BAD);
        due("outs(0, 31, 0)", x.outs(0, 31, 0), BAD);
        due("outs(2, 1, 0)", x.outs(2, 1, 0), BAD);
        due("outs(0, 1, 2)", x.outs(0, 1, 2), BAD);
        promise = "23";
        due("shakes(0, 2, 0)", x.shakes(0, 2, 0), NONE);
        x.minutes(2);
        due("shakes(0, 1, 0)", x.shakes(0, 1, 0), 2);
        due("shakes(0, 1, 1)", x.shakes(0, 1, 1), 3);
        due("shakes(0, 2, 1)", x.shakes(0, 2, 1), NONE);
        due("shakes(1, 1, 0)", x.shakes(1, 1, 0), 0);
        due("shakes(0, 0, 0)", x.shakes(0, 0, 0), BAD);
        due("shakes(0, 31, 0)", x.shakes(0, 31, 0), BAD);
        due("shakes(2, 1, 0)", x.shakes(2, 1, 0), BAD);
        due("shakes(0, 1, -1)", x.shakes(0, 1, -1), BAD);
        due("shakes(0, 1, 2)", x.shakes(0, 1, 2), BAD);
        // COLD now is not behind a MINUTE; and COLD on the way does not matter to SHAKE
        tell(x, "h0,5;m5,1;p1,1,1;");
        promise = "22";
        due("COLD now only", x.outs(0, 2, 0), 0);
        promise = "23";
        tell(x, "h0,5;m9,3;s0,6,40;p0,1,1;");
        x.minutes(1);
        due("ahead(0, 1)", x.ahead(0, 0), 5);
        due("COLD now, warm then", x.shakes(0, 1, 0), 0);
        due("the one that has some", x.shakes(0, 2, 1), 1);
    }

    private static void hangAndFire() {
        promise = "24";
        WarmTubes x = told(TWO_PLAIN);
        due("hang(0, 2, 0)", x.hang(0, 2, 0), 0);
        due("hang(0, 2, 1)", x.hang(0, 2, 1), 8);
        due("hang(0, 3, 0)", x.hang(0, 3, 0), 1);
        due("hang(0, 3, 1)", x.hang(0, 3, 1), 12);
        due("hang(0, 1, 1)", x.hang(0, 1, 1), 4);
        due("hang(0, 30, 1)", x.hang(0, 30, 1), 40);
        due("hang(0, 0, 0)", x.hang(0, 0, 0), BAD);
        due("hang(0, 31, 0)", x.hang(0, 31, 0), BAD);
        due("hang(2, 1, 0)", x.hang(2, 1, 0), BAD);
        due("hang(0, 1, 2)", x.hang(0, 1, 2), BAD);
        // a leaking one loses on THE STEP what a COLD room would get, too: the first of several
        tell(x, "h0,9;m9,0;l1,1,1;");
        due("all alike", x.hang(0, 5, 0), 0);
        due("nothing anywhere", x.hang(0, 5, 1), 0);
        promise = "25";
        tell(x, TWO_PLAIN);
        due("fire(0, 1)", x.fire(0, 1), 0);
        due("fire(0, 2)", x.fire(0, 2), 2);
        due("fire(1, 30)", x.fire(1, 30), 1);
        due("fire(0, 0)", x.fire(0, 0), BAD);
        due("fire(0, 31)", x.fire(0, 31), BAD);
        due("fire(2, 1)", x.fire(2, 1), BAD);
        tell(x, "h9,20;m9,0;p1,1,1;");
        due("the greatest is too little", x.fire(0, 1), NONE);
        tell(x, "h9,19;m9,0;p1,1,1;");
        due("the greatest", x.fire(0, 1), 20);
    }

    private static void poursAndMix() {
        WarmTubes x = told(ALL_SORTS);
        x.minutes(3);
        promise = "26";
        due("pours(0, 9, -1)", x.pours(0, 9, -1), 0);
        due("pours(0, 9, 0)", x.pours(0, 9, 0), NONE);
        due("pours(0, 10, -1)", x.pours(0, 10, -1), 1);
        due("pours(0, 10, 0)", x.pours(0, 10, 0), 10);
        due("pours(0, 10, 1)", x.pours(0, 10, 1), NONE);
        due("pours(0, 0, 0)", x.pours(0, 0, 0), 1);
        due("pours(0, 7, 0)", x.pours(0, 7, 0), 4);
        due("pours(0, 7, MOST)", x.pours(0, 7, MOST), NONE);
        due("pours(0, 40, -1)", x.pours(0, 40, -1), NONE);
        // 9 of 10, 12 of 25, 4 of 6 are UP: fill 4, and let it give 1
        due("pours(4, 5, -1)", x.pours(4, 5, -1), 2);
        due("pours(4, 5, 0)", x.pours(4, 5, 0), 14);
        due("pours(4, 5, 1)", x.pours(4, 5, 1), 40);
        // fill 0, and let it give 2
        due("pours(0, 8, 0)", x.pours(0, 8, 0), 10);
        due("pours(0, 8, 1)", x.pours(0, 8, 1), 4);
        // empty 0, and pour 4 into it; first to empty 4 into 1 comes later by the numbers
        due("pours(0, 4, -1)", x.pours(0, 4, -1), 2);
        due("pours(0, 4, 0)", x.pours(0, 4, 0), 1);
        due("pours(0, 4, 1)", x.pours(0, 4, 1), 40);
        due("pours(0, 4, 2)", x.pours(0, 4, 2), NONE);
        due("pours(5, 1, -1)", x.pours(5, 1, -1), NONE);
        threePourings();
        due("pours(6, 0, 0)", x.pours(6, 0, 0), BAD);
        due("pours(0, 41, 0)", x.pours(0, 41, 0), BAD);
        due("pours(0, -1, 0)", x.pours(0, -1, 0), BAD);
        due("pours(0, 0, -2)", x.pours(0, 0, -2), BAD);
        due("pours(0, 0, LEAST)", x.pours(0, 0, LEAST), BAD);
        promise = "27";
        int[][] sets = {{21, 0}, {30, 1}, {33, 2}, {25, 16}, {34, 17}, {46, 19}};
        for (int[] set : sets) {
            due("mix(0, " + set[0] + ", 0)", x.mix(0, set[0], 0), 1);
            due("mix(0, " + set[0] + ", 1)", x.mix(0, set[0], 1), set[1]);
        }
        due("mix(0, 22, 0)", x.mix(0, 22, 0), 0);
        due("mix(0, 22, 1)", x.mix(0, 22, 1), NONE);
        x.shake(4);
        due("mix(0, 34, 0) with an empty one", x.mix(0, 34, 0), 2);
        due("mix(0, 34, 1) with an empty one", x.mix(0, 34, 1), 1);
        due("mix(2, 0, 0)", x.mix(2, 0, 0), BAD);
        due("mix(0, -1, 0)", x.mix(0, -1, 0), BAD);
        due("mix(0, 1000, 0)", x.mix(0, 1000, 0), BAD);
        due("mix(0, 999, 0)", x.mix(0, 999, 0), 0);
        due("mix(0, 0, 2)", x.mix(0, 0, 2), BAD);
        tell(x, "h0,0;m0,0;p0,1,1;p1,1,1;");
        due("mix(0, 0, 0)", x.mix(0, 0, 0), 2);
        due("mix(0, 0, 1)", x.mix(0, 0, 1), 0);
    }

    /** Eight, five and three: 6 needs all the POURINGS there may be. */
    private static void threePourings() {
        WarmTubes x = told("h0,0;m99,0;p0,8,8;p1,1,5;p1,1,3;");
        x.minutes(1);
        due("pours elsewhere", x.pours(0, 3, -1), NONE);
        x.carry(1, 0);
        x.carry(2, 0);
        int[] six = {1, 12, 20};
        due("pours(0, 6, -1)", x.pours(0, 6, -1), 3);
        for (int k = 0; k < six.length; k++) {
            due("pours(0, 6, " + k + ")", x.pours(0, 6, k), six[k]);
        }
        due("pours(0, 6, 3)", x.pours(0, 6, 3), NONE);
        due("pours(1, 2, -1)", x.pours(1, 2, -1), 2);
        due("pours(0, 1, -1)", x.pours(0, 1, -1), NONE);
        due("tube(0, 3) behind all that", x.tube(0, 3), 8);
    }

    private static void sales() {
        promise = "29";
        WarmTubes x = told(TWO_PLAIN);
        due("sale(0, 30, 10, 1, 0)", x.sale(0, 30, 10, 1, 0), 3);
        due("sale(0, 30, 10, 1, 1)", x.sale(0, 30, 10, 1, 1), 70);
        due("sale(0, 2, 10, 1, 0)", x.sale(0, 2, 10, 1, 0), 2);
        due("sale(0, 2, 10, 1, 1)", x.sale(0, 2, 10, 1, 1), 64);
        due("sale(0, 1, 10, 1, 1)", x.sale(0, 1, 10, 1, 1), 36);
        due("sale(0, 30, 1, 9, 0)", x.sale(0, 30, 1, 9, 0), 0);
        due("sale(0, 30, 1, 9, 1)", x.sale(0, 30, 1, 9, 1), 0);
        due("sale(0, 30, 99, 0, 0)", x.sale(0, 30, 99, 0, 0), 3);
        due("sale(0, 30, 99, 0, 1)", x.sale(0, 30, 99, 0, 1), 990);
        due("sale(2, 1, 1, 0, 0)", x.sale(2, 1, 1, 0, 0), BAD);
        due("sale(0, 0, 1, 0, 0)", x.sale(0, 0, 1, 0, 0), BAD);
        due("sale(0, 31, 1, 0, 0)", x.sale(0, 31, 1, 0, 0), BAD);
        due("sale(0, 1, 0, 0, 0)", x.sale(0, 1, 0, 0, 0), BAD);
        due("sale(0, 1, 100, 0, 0)", x.sale(0, 1, 100, 0, 0), BAD);
        due("sale(0, 1, 1, -1, 0)", x.sale(0, 1, 1, -1, 0), BAD);
        due("sale(0, 1, 1, 10, 0)", x.sale(0, 1, 1, 10, 0), BAD);
        due("sale(0, 1, 1, 0, 2)", x.sale(0, 1, 1, 0, 2), BAD);
    }

    private static void whos() {
        promise = "30";
        WarmTubes x = told(ALL_SORTS);
        lay(x, 0, 0, 99, 33, 27, 21, 16, 12, 12, 36);
        due("KINDS by 1", x.who(0, 0, 0, 0, 1, 1), 62);
        due("KINDS by 2", x.who(0, 0, 0, 0, 1, 2), 22);
        due("KINDS by 6", x.who(0, 0, 0, 0, 1, 6), 22);
        due("KINDS by 7", x.who(0, 0, 0, 0, 1, 7), 0);
        due("TAKINGS by 1", x.who(0, 1, 0, 0, 1, 1), 8);
        due("TAKINGS of one elsewhere", x.who(5, 1, 0, 0, 1, 6), 1022);
        due("PLACES by 1", x.who(0, 2, 0, 0, 1, 1), 1);
        due("PLACES elsewhere", x.who(0, 2, 0, 0, 7, 1), 6);
        due("who(6, ..)", x.who(6, 0, 0, 0, 0, 1), BAD);
        due("who(.., 3, ..)", x.who(0, 3, 0, 0, 0, 1), BAD);
        due("who(.., room 2, ..)", x.who(0, 0, 2, 0, 0, 1), BAD);
        due("who(.., row 8, ..)", x.who(0, 0, 0, 8, 0, 1), BAD);
        due("who(.., 0)", x.who(0, 0, 0, 0, 0, 0), BAD);
        due("who(.., 13)", x.who(0, 0, 0, 0, 0, 13), BAD);
        due("who(.., row 1, ..)", x.who(0, 0, 0, 1, -1, 1), NULL);
        due("who(.., -1, 1)", x.who(0, 0, 0, 0, -1, 1), PLACE);
        due("who(.., 8, 1)", x.who(0, 0, 0, 0, 8, 1), PLACE);
        due("who(.., 0, 9)", x.who(0, 0, 0, 0, 0, 9), PLACE);
        due("who(.., MOST, 12)", x.who(0, 0, 0, 0, MOST, 12), PLACE);
    }

    private static void frosts() {
        promise = "31";
        WarmTubes x = told("h5,0;m0,7;p1,1,1;");
        lay(x, 0, 1, 7, 9, 7, 7);
        due("FROSTS by 1", x.frosts(0, 0, 0, 0, 1), 1023);
        due("FROSTS by 2", x.frosts(0, 0, 0, 0, 2), 32);
        due("FROSTS all too great", x.frosts(0, 0, 0, 2, 2), 896);
        due("SHAKEN by none, as it is", x.frosts(0, 1, 0, 0, 2), 65);
        due("SHAKEN, not so", x.frosts(0, 1, 0, 2, 2), 0);
        due("frosts(1, ..)", x.frosts(1, 0, 0, 0, 1), BAD);
        due("frosts(.., 2, ..)", x.frosts(0, 2, 0, 0, 1), BAD);
        due("frosts(.., row -1, ..)", x.frosts(0, 0, -1, 0, 1), BAD);
        due("frosts(.., 0)", x.frosts(0, 0, 0, 0, 0), BAD);
        due("frosts(.., 13)", x.frosts(0, 0, 0, 0, 13), BAD);
        due("frosts(.., row 1, ..)", x.frosts(0, 0, 1, 9, 1), NULL);
        due("frosts(.., 4, 1)", x.frosts(0, 0, 0, 4, 1), PLACE);
        due("frosts(.., 3, 2)", x.frosts(0, 0, 0, 3, 2), PLACE);
        due("frosts(.., LEAST, 1)", x.frosts(0, 0, 0, LEAST, 1), PLACE);
        tell(x, TWO_PLAIN);
        x.minutes(2);
        // 2 now: 10 if 0 is SHAKEN, then 4 and 3 are taken, 2 are lost
        lay(x, 0, 2, 1, 0, 0);
        due("one SHAKEN", x.frosts(0, 1, 0, 0, 1), 1);
        due("as it is, or the other one", x.frosts(0, 1, 0, 1, 1), 66);
    }

    private static void likely(WarmTubes x, int n, int p, long above, long below) {
        due("forgotten(0, " + n + ", " + p + ", 0)", x.forgotten(0, n, p, 0), above);
        due("forgotten(0, " + n + ", " + p + ", 1)", x.forgotten(0, n, p, 1), below);
    }

    private static void forgotten() {
        promise = "32";
        WarmTubes x = told(TWO_PLAIN);
        likely(x, 3, 5, 1, 4);
        likely(x, 3, 0, 1, 1);
        likely(x, 3, 10, 0, 1);
        likely(x, 2, 5, 3, 4);
        likely(x, 2, 3, 91, 100);
        likely(x, 0, 7, 1, 1);
        likely(x, 30, 7, 0, 1);
        due("forgotten(2, ..)", x.forgotten(2, 0, 0, 0), BAD);
        due("forgotten(.., -1, ..)", x.forgotten(0, -1, 0, 0), BAD);
        due("forgotten(.., 31, ..)", x.forgotten(0, 31, 0, 0), BAD);
        due("forgotten(.., 11, ..)", x.forgotten(0, 0, 11, 0), BAD);
        due("forgotten(.., -1, 0)", x.forgotten(0, 0, -1, 0), BAD);
        due("forgotten(.., 2)", x.forgotten(0, 0, 0, 2), BAD);
        // warm only if all six are carried out
        tell(x, "h0,9;m10,0;p0,1,1;p0,1,1;p0,1,1;p0,1,1;p0,1,1;p0,1,1;");
        likely(x, 1, 3, 117649, 1000000);
    }

    private static void drawn() {
        promise = "33";
        WarmTubes x = told("h0,49;m50,0;m50,0;m50,0;p0,1,40;");
        // by 1 the fifth draw, 1144108930, carries to ROOM 1 unshaken; the sixth, 470211272, shakes
        int[] cold = {0, 1, 1, 1, 1, 2, 1, 1};
        for (int n = 0; n < cold.length; n++) {
            due("drawn(" + n + ", 1, 0)", x.drawn(n, 1, 0), cold[n]);
            due("drawn(" + n + ", 1, 1)", x.drawn(n, 1, 1), 150);
        }
        x.minutes(1);
        due("drawn(0, 1, 0) from now on", x.drawn(0, 1, 0), 1);
        x.undo();
        due("drawn(61, 1, 0)", x.drawn(61, 1, 0), BAD);
        due("drawn(-1, 1, 0)", x.drawn(-1, 1, 0), BAD);
        due("drawn(1, 0, 0)", x.drawn(1, 0, 0), BAD);
        due("drawn(1, 1000000, 0)", x.drawn(1, 1000000, 0), BAD);
        due("drawn(1, 1, 2)", x.drawn(1, 1, 2), BAD);
        due("drawn(60, 999999, 1)", x.drawn(60, 999999, 1), 150);
        due("count(3)", x.count(3), 0);
    }

    private static void images() {
        promise = "34";
        WarmTubes x = new WarmTubes();
        due("image(2)", x.image(2), BAD);
        due("image(-1)", x.image(-1), BAD);
        due("image(0) of nothing", x.image(0), STATE);
        tell(x, ALL_SORTS);
        x.minutes(3);
        due("image(0)", x.image(0), 1);
        due("count(6) behind image", x.count(6), 3);
        x.minutes(1);
        tell(x, TWO_PLAIN);
        promise = "35";
        due("restore(1)", x.restore(1), STATE);
        due("restore(2)", x.restore(2), BAD);
        due("restore(-1)", x.restore(-1), BAD);
        x.image(1);
        x.minutes(2);
        due("restore(0)", x.restore(0), 1);
        due("count(6)", x.count(6), 0);
        due("undo()", x.undo(), STATE);
        due("count(2)", x.count(2), 6);
        due("count(3)", x.count(3), 3);
        due("degrees()", x.degrees(), 68);
        due("kind(4)", x.kind(4), 5);
        due("chill(1)", x.chill(1), 0);
        x.minutes(1);
        due("restore(0) again", x.restore(0), 1);
        due("count(3) again", x.count(3), 3);
        due("restore(1)", x.restore(1), 1);
        due("count(2) of the other", x.count(2), 2);
        due("room(0, 0) of the other", x.room(0, 0), 20);
    }

    private static void kinds() {
        WarmTubes x = told(ALL_SORTS);
        promise = "36";
        int[] kinds = {1, 2, 3, 4, 5, 1};
        for (int t = 0; t < kinds.length; t++) {
            due("kind(" + t + ")", x.kind(t), kinds[t]);
        }
        due("kind(6)", x.kind(6), BAD);
        due("kind(-1)", x.kind(-1), BAD);
        promise = "37";
        String[] is = {"110000", "111000", "110100", "100010", "100011", "110000"};
        for (int t = 0; t < is.length; t++) {
            for (int kind = 0; kind < 6; kind++) {
                due("as(" + t + ", " + kind + ")", x.as(t, kind), is[t].charAt(kind) == '1' ? t : KIND);
            }
        }
        due("as(0, 6)", x.as(0, 6), BAD);
        due("as(0, -1)", x.as(0, -1), BAD);
        due("as(6, 0)", x.as(6, 0), BAD);
    }

    private static void asks() {
        promise = "38 and 39";
        WarmTubes x = told(ALL_SORTS);
        x.minutes(3);
        due("ask(0, 0)", x.ask(0, 0), 19);
        traced(x, 11, 10, 21, 20);
        due("ask(0, 1)", x.ask(0, 1), 9);
        traced(x, 21, 20);
        due("ask(1, 0)", x.ask(1, 0), -51);
        traced(x, 12, 11, 10, 24, 21, 20);
        due("ask(1, 1)", x.ask(1, 1), 26);
        traced(x, 24, 21, 20);
        due("ask(2, 0)", x.ask(2, 0), -982);
        traced(x, 11, 10, 22, 21, 20);
        due("ask(2, 1)", x.ask(2, 1), -990);
        traced(x, 22, 21, 20);
        due("ask(3, 0)", x.ask(3, 0), -88);
        traced(x, 13, 10);
        due("ask(3, 1)", x.ask(3, 1), 91);
        traced(x, 23, 20, 13, 10);
        due("ask(4, 0)", x.ask(4, 0), -188);
        traced(x, 14, 13, 10);
        due("ask(4, 1)", x.ask(4, 1), 192);
        traced(x, 23, 20, 14, 13, 10);
        due("ask(6, 0)", x.ask(6, 0), BAD);
        due("ask(0, 2)", x.ask(0, 2), BAD);
        due("ask(0, -1)", x.ask(0, -1), BAD);
        traced(x, 23, 20, 14, 13, 10);
        due("trace(-1)", x.trace(-1), NONE);
        due("trace(LEAST)", x.trace(LEAST), NONE);
        due("trace(MOST)", x.trace(MOST), NONE);
    }

    private static void status() {
        promise = "41";
        WarmTubes x = told(ALL_SORTS);
        x.set(0, 0, 0);
        due("NULL", x.status(), 1);
        x.set(9, 0, 0);
        x.row(0, 0, 41);
        x.as(9, 0);
        x.who(0, 0, 0, 0, 0, 13);
        due("BAD leaves it", x.status(), 1);
        x.minutes(1);
        x.shake(5);
        due("calls without a ROW leave it", x.status(), 1);
        x.row(0, 0, 2);
        due("none", x.status(), 0);
        x.set(0, 2, 0);
        due("PLACE", x.status(), 2);
        x.as(0, 1);
        due("as that", x.status(), 0);
        x.as(0, 2);
        due("KIND", x.status(), 3);
        x.frosts(0, 0, 0, 0, 2);
        due("frosts without one", x.status(), 0);
        x.row(0, 0, -1);
        due("SIZE", x.status(), 4);
        x.set(0, 0, 1);
        due("set without one", x.status(), 0);
        x.row(1, 1, 2);
        x.copy(0, 0, 1, 0, 1);
        due("STORE", x.status(), 5);
        x.copy(0, 0, 0, 0, 1);
        due("copy without one", x.status(), 0);
        x.who(0, 0, 0, 2, 0, 1);
        due("NULL of who", x.status(), 1);
        x.who(0, 0, 0, 0, 0, 1);
        due("who without one", x.status(), 0);
        x.drop(2);
        due("NULL of drop", x.status(), 1);
        x.drop(1);
        due("drop without one", x.status(), 0);
    }

    /** Where WARMTH stands at its most: what is SHAKEN is cut, what leaks is taken again. */
    private static void corners() {
        promise = "10 and 12";
        WarmTubes x = told("h0,0;m99,20;l0,2,3;p0,9,40;");
        x.minutes(24);
        x.minutes(24);
        due("WARMTH at most", x.room(0, 0), 999);
        due("UP in the leaking one", x.tube(0, 3), 3);
        due("mix with the most", x.mix(0, 999, 0), 4);
        due("shake at the most", x.shake(1), 40);
        due("room(0, 0)", x.room(0, 0), 999);
        x.stove(0, 0);
        x.carry(1, 1);
        x.minutes(5);
        due("what leaks at the most is not lost", x.room(0, 0), 999);
        due("degrees()", x.degrees(), 1002);
        x.carry(0, 1);
        x.minutes(2);
        due("what leaks on THE STEP is lost", x.degrees(), 1000);
        due("UP then", x.tube(0, 3), 1);
        x.minutes(2);
        due("nothing is UP at last", x.tube(0, 3), 0);
    }
}
