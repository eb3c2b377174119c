/** Each sentence of "==== 2." and of the promises 7 to 10 and 30 to 32 that names an edge has a test of its own here. */
public final class BowEdgeTest {
    private static final Check check = new Check();
    private static final int MIN = Integer.MIN_VALUE;
    private static final int MAX = Integer.MAX_VALUE;
    private static final String CORD = "cord c smooth 0 weight 0 long 10;";
    /** As an int it wraps to the least one. */
    private static final String LEAST = "8192*8192*32";

    public static void main(String[] args) {
        tightAndLongAtFirst();
        openHasNone();
        slipsIfAbove();
        aboveAnd9Over10();
        noMoreThanItIsTight();
        endOfItsSide();
        fourTimesWhatSlipped();
        nothingSlipsFurtherIn();
        goneBehindItAll();
        wrapping();
        divisions();
        relationsAndWords();
        likeAndPlace();
        longAsItIsNow();
        strikeAndSwingOfTheStep();
        withoutLaws();
        roundAndRound();
        luckOfASwing();
        draw();
        tie();
        walkHowManySteps();
        walkFromWhere();
        walkRefused();
        walkMost();
        walkTillOpen();
        pull();
        bow();
        seed();
        image();
        back();
        check.close("BowEdgeTest");
    }

    private static void due(String call, long got, long want) {
        check.due(call, got, want);
    }

    /** A BOW of that KNOT, tied. */
    private static BowWalk tied(String sides, String more) {
        BowWalk x = Check.shop("knot a " + sides + ";" + CORD + more);
        x.tie(0, 0);
        return x;
    }

    // ---- a BOW ----

    private static void tightAndLongAtFirst() {
        check.promise("each CROSSING is so TIGHT (tight at first), the ENDS so LONG (long of the CORD at first)");
        for (int number : new int[] {1, 999}) {
            BowWalk x = Check.shop("knot a over under over;cord c smooth 9 weight 9 long " + number + ";tight " + number + ";");
            x.tie(0, 0);
            for (int what : new int[] {1, 2, 10, 11, 12}) {
                due("bow(" + what + ")", x.bow(what), number);
            }
        }
    }

    private static void openHasNone() {
        check.promise("It has as many CROSSINGS as are left; OPEN: none");
        BowWalk x = tied("over under", "tight 1;law l rub 0 pull 0;");
        due("bow(0)", x.bow(0), 2);
        due("pull(1): 1 and, by 4, 1", x.pull(1), 2);
        due("bow(0)", x.bow(0), 0);
    }

    private static int slipped(int rub, int p, int tight) {
        return tied("over", "tight " + tight + ";law l rub " + (rub < 0 ? "0" + rub : rub) + " pull 0;").pull(p);
    }

    private static void slipsIfAbove() {
        check.promise("It SLIPS, if that is above its rub e");
        due("49 of 50", slipped(50, 49, 100), 0);
        due("50 of 50", slipped(50, 50, 100), 0);
        due("51 of 50", slipped(50, 51, 100), 1);
        due("0 of 0", slipped(0, 0, 100), 0);
        due("0 of -1", slipped(-1, 0, 100), 1);
        due("999 of 999", slipped(999, 999, 100), 0);
        due("999 of 998", slipped(998, 999, 100), 1);
    }

    private static void aboveAnd9Over10() {
        check.promise("by (what is above + 9) / 10 (cut)");
        int[][] rows = {{1, 1}, {2, 1}, {9, 1}, {10, 1}, {11, 2}, {20, 2}, {21, 3}, {990, 99}, {991, 100}, {999, 100}};
        for (int[] row : rows) {
            due(row[0] + " above 0", slipped(0, row[0], 500), row[1]);
        }
        due("10 above -10", slipped(-10, 0, 500), 1);
        due("11 above -11", slipped(-11, 0, 500), 2);
        // more above than an int holds: the greatest int pulls, the least rubs
        BowWalk x = tied("over", "tight 999;walk w 0 0;law l rub " + LEAST + " pull " + LEAST + "-1;");
        due("all that is TIGHT", x.walk(0, 1), 999);
        // so much above that only the 9 more are no int
        x = tied("over", "tight 999;walk w 0 0;law l rub 0 pull " + LEAST + "-1;");
        due("all that is TIGHT", x.walk(0, 1), 999);
        x = tied("over", "tight 999;walk w 0 0;law l rub " + LEAST + "-1 pull " + LEAST + ";");
        due("so much below", x.walk(0, 1), 0);
    }

    private static void noMoreThanItIsTight() {
        check.promise("no more than it is TIGHT");
        due("as much", slipped(0, 30, 3), 3);
        due("less", slipped(0, 30, 4), 3);
        due("more", slipped(0, 31, 3), 3);
        due("much more", slipped(-9999, 999, 1), 1);
        BowWalk x = tied("over under", "tight 5;law l rub 0 - (place = 0) * 9999 pull 0;");
        due("of one further in, too", x.pull(10), 1 + 5);
        due("bow(11)", x.bow(11), 4);
        due("bow(10)", x.bow(10), 0);
    }

    private static void endOfItsSide() {
        check.promise("so much less TIGHT it is, so much LONGER is the END of its SIDE");
        BowWalk x = tied("over", "law l rub 0 pull 0;");
        x.pull(30);
        due("over", x.bow(1), 13);
        due("under", x.bow(2), 10);
        due("TIGHT", x.bow(10), 97);
        x = tied("under", "law l rub 0 pull 0;");
        x.pull(30);
        due("over", x.bow(1), 10);
        due("under", x.bow(2), 13);
        // 30 at the outermost one: 3, by 12: 2, by 8: 1
        x = tied("under over under", "law l rub 0 pull 0;");
        due("pull(30)", x.pull(30), 6);
        due("over", x.bow(1), 12);
        due("under", x.bow(2), 14);
    }

    private static void fourTimesWhatSlipped() {
        check.promise("each other one: 4 times what SLIPPED at the one outside it");
        // 21 at the outermost one: 3, so 12 further in
        int[][] rows = {{13, 0}, {12, 0}, {11, 1}, {2, 1}, {1, 2}};
        for (int[] row : rows) {
            BowWalk x = tied("over over", "law l rub (place = 0) * " + row[0] + " pull 0;");
            due("rub " + row[0], x.pull(21), 3 + row[1]);
        }
        // what slipped, not what would have: no more than it is TIGHT
        BowWalk x = tied("over over", "tight 2;law l rub (place = 0) * 7 pull 0;");
        due("2, so 8 further in", x.pull(999), 2 + 1);
        x = tied("over over", "tight 2;law l rub (place = 0) * 8 pull 0;");
        due("2, so 8 further in", x.pull(999), 2);
    }

    private static void nothingSlipsFurtherIn() {
        check.promise("(without that nothing slips further in)");
        BowWalk x = tied("over over", "law l rub (place = 1) * 50 - (place = 0) * 9999 pull 0;");
        due("pull(50)", x.pull(50), 0);
        due("bow(10)", x.bow(10), 100);
        due("pull(51)", x.pull(51), 1 + 100);
        x = tied("over over over", "law l rub (place = 1) * 4 - (place = 0) * 9999 pull 0;");
        due("the middle one does not slip", x.pull(1), 1);
        due("bow(10)", x.bow(10), 100);
        due("1 at the outermost, 4 not above 4", x.pull(10), 1);
        due("2 at the outermost, 8 above 4", x.pull(11), 2 + 1 + 100);
    }

    private static void goneBehindItAll() {
        check.promise("Behind it all: outermost CROSSINGS with no TIGHT are gone, one by one");
        BowWalk x = tied("over over over", "tight 5;law l rub 0 - (place = 1) * 1000 pull 0;");
        due("1, all 5, by 20 then 2", x.pull(10), 8);
        due("one with no TIGHT that is not outermost stays", x.bow(0), 3);
        due("4, then what has no TIGHT can't slip", x.pull(40), 4);
        due("two are gone", x.bow(0), 1);
        due("bow(12)", x.bow(12), 0);
        due("bow(11)", x.bow(11), 0);
        due("bow(10)", x.bow(10), 3);
        due("the outermost one is the innermost now", x.pull(10), 1);
        x = tied("over over", "tight 5;law l rub 0 pull 0;");
        due("as it slips all, the next one is pulled in the same PULL", x.pull(50), 5 + 2);
        due("one is gone", x.bow(0), 1);
        x = tied("over over over", "tight 1;law l rub 0 pull 0;");
        due("all in one PULL", x.pull(1), 3);
        due("all are gone", x.bow(0), 0);
    }

    // ---- e ----

    /** What slips is e: it pulls ten times as much, and nothing rubs. */
    private static void asked(String e, int want) {
        BowWalk x = tied("over", "walk w 7 11;tight 999;law l rub 0 pull (" + e + ")*10;");
        due("e " + e, x.walk(0, 1), want);
    }

    private static void wrapping() {
        check.promise("e is asked with ints, wrapping");
        asked(LEAST + "<0", 1);
        asked(LEAST + "=0-" + LEAST, 1);
        asked(LEAST + "-1>0", 1);
        asked(LEAST + "-1+1<0", 1);
        asked(LEAST + "-1+1=" + LEAST, 1);
        asked(LEAST + "+" + LEAST, 0);
        asked(LEAST + "*2", 0);
        asked(LEAST + "<" + LEAST + "-1", 1);
        asked("8192*8192*64+5", 5);
        // 4299140043 is 4172747 as an int
        asked("9999*9999*43/9999", 417);
    }

    private static void divisions() {
        check.promise("/ cut, by 0: 0");
        asked("9/2", 4);
        asked("(0-9)/2=0-4", 1);
        asked("9/(0-2)=0-4", 1);
        asked("(0-9)/(0-2)", 4);
        asked("1/2", 0);
        asked("(0-1)/2", 0);
        asked("9/0", 0);
        asked("0/0", 0);
        asked("(0-9)/0", 0);
        asked(LEAST + "/0", 0);
        asked("7+9/0*5", 7);
        asked(LEAST + "/(0-1)=" + LEAST, 1);
        asked(LEAST + "/" + "(" + LEAST + ")", 1);
    }

    private static void relationsAndWords() {
        check.promise("relations, and, or, not are 1 or 0, of what is not 0");
        asked("5<6", 1);
        asked("6<6", 0);
        asked("7<6", 0);
        asked("5>6", 0);
        asked("6>6", 0);
        asked("7>6", 1);
        asked("6=6", 1);
        asked("5=6", 0);
        asked("0-1<0", 1);
        asked("(0-5)and(0-6)", 1);
        asked("(0-5)and 0", 0);
        asked("0 and(0-5)", 0);
        asked("0 and 0", 0);
        asked("(0-5)or 0", 1);
        asked("0 or(0-5)", 1);
        asked("8 or 9", 1);
        asked("0 or 0", 0);
        asked("not(0-5)", 0);
        asked("not 9999", 0);
        asked("not 0", 1);
        asked("not(0)*5", 1);
        asked(LEAST + " and " + LEAST, 1);
        asked("not " + LEAST, 0);
    }

    private static void likeAndPlace() {
        check.promise("like: 1 if the one inside it is of the same SIDE (0: of the innermost); place: its number from 0");
        String law = "tight 9;walk w 0 0;law l rub 0 pull (like * 3 + place) * 10;";
        due("over", tied("over", law).walk(0, 1), 0);
        due("under", tied("under", law).walk(0, 1), 0);
        String alone = "tight 9;walk w 0 0;law l rub (place < LAST) * 999 pull (like * 3 + place) * 10;";
        due("over over", tied("over over", alone.replace("LAST", "1")).walk(0, 1), 4);
        due("under under", tied("under under", alone.replace("LAST", "1")).walk(0, 1), 4);
        due("over under", tied("over under", alone.replace("LAST", "1")).walk(0, 1), 1);
        due("under over", tied("under over", alone.replace("LAST", "1")).walk(0, 1), 1);
        due("under over over", tied("under over over", alone.replace("LAST", "2")).walk(0, 1), 5);
        due("over over under", tied("over over under", alone.replace("LAST", "2")).walk(0, 1), 2);
        due("the 12th: 11, no more than 9", tied("over ".repeat(12), alone.replace("LAST", "11")).walk(0, 1), 9);
        // of the one inside it, not of the one outside it: rub of the middle one lets it slip only if it is like
        String inner = "tight 9;walk w 0 0;law l rub (place = 1) * (1 - like) * 99 + (place = 0) * 99 pull 10;";
        due("over over under", tied("over over under", inner).walk(0, 1), 2);
        due("over under under", tied("over under under", inner).walk(0, 1), 1);
        // once the outer ones are gone, the others are like as they were
        BowWalk x = tied("over over under", "tight 9;walk w 0 0;law l rub (place = 0) * 999 + (place = 1) * (9 - like * 9) pull 0;");
        due("9, 2", x.pull(999), 9 + 4);
        due("bow(0)", x.bow(0), 2);
        due("like still", x.pull(1), 1);
    }

    private static void longAsItIsNow() {
        check.promise("long: of its SIDE's END, as it is now");
        String law = "law l rub 0 - (place = 0) * (long - 10) pull 0;";
        // 10 at the outermost one makes its END 20, so 40 + 10 further in
        due("the same SIDE", tied("over over", law).pull(100), 10 + 5);
        due("the other SIDE", tied("under over", law).pull(100), 10 + 4);
        BowWalk x = tied("over", "walk w 0 0;law l rub 0 pull long;");
        due("10", x.walk(0, 1), 1);
        due("11", x.walk(0, 1), 2);
        due("13", x.walk(0, 1), 2);
        due("15, 17, 19, 21", x.walk(0, 4), 2 + 2 + 2 + 3);
    }

    private static void strikeAndSwingOfTheStep() {
        check.promise("strike, swing: of the STEP");
        BowWalk x = tied("over over", "tight 500;walk w 10 0 0 20 99 99;law l rub (place = 0) * (999 - strike - swing) pull strike + swing;");
        due("walk", x.walk(0, 1), 1);
        due("walk", x.walk(0, 1), 2);
        due("198: 20, by 80 not above 801", x.walk(0, 1), 20);
        due("round: the first", x.walk(0, 1), 1);
    }

    private static void withoutLaws() {
        check.promise("Without LAWS rub e is tight - strike - smooth, pull e is weight + long * swing / 100");
        BowWalk x = Check.shop("knot a over;cord c smooth 10 weight 20 long 50;walk w 30 19;tight 69;");
        x.tie(0, 0);
        due("20 + 9 not above 29", x.walk(0, 1), 0);
        x = Check.shop("knot a over;cord c smooth 10 weight 20 long 50;walk w 30 20;tight 69;");
        x.tie(0, 0);
        due("20 + 10 above 29", x.walk(0, 1), 1);
        x = Check.shop("knot a over;cord c smooth 99 weight 0 long 1;walk w 99 0;tight 188;");
        x.tie(0, 0);
        due("0 above -10", x.walk(0, 1), 1);
        x = Check.shop("knot a over;cord c smooth 0 weight 99 long 999;walk w 0 99;tight 999;");
        x.tie(0, 0);
        due("99 + 989 above 999", x.walk(0, 1), 9);
        due("it is told once more by no LAW", x.about(3), 0);
        due("nor its units", x.about(9), 0);
        // with a LAW told it is gone
        x = Check.shop("knot a over;cord c smooth 99 weight 99 long 999;walk w 99 99;tight 9;law l rub 0 pull 0;");
        x.tie(0, 0);
        due("LAW 0", x.walk(0, 9), 0);
    }

    // ---- a WALK ----

    private static void roundAndRound() {
        check.promise("A WALK goes STEP by STEP, round and round");
        String law = "tight 999;law l rub 0 pull strike * 10;";
        BowWalk x = tied("over", law + "walk one 3 0;walk eight 1 0 2 0 3 0 4 0 5 0 6 0 7 0 8 0;");
        for (int i = 0; i < 3; i++) {
            due("of one STEP", x.walk(0, 1), 3);
        }
        for (int i = 0; i < 17; i++) {
            due("of eight STEPS", x.walk(1, 1), i % 8 + 1);
        }
        x.tie(0, 0);
        due("twice round", x.walk(1, 16), 72);
        due("and on", x.walk(1, 3), 6);
    }

    /** What a swing is in earnest. */
    private static void swung(int swing, int luck, int seed, int want) {
        BowWalk x = tied("over", "tight 999;walk w 0 " + swing + ";luck " + luck + ";law l rub 0 pull swing * 10;");
        x.seed(seed);
        due("swing " + swing + ", luck " + luck + ", w " + seed, x.walk(0, 1), want);
    }

    private static void luckOfASwing() {
        check.promise("In earnest swing is more by DRAW of (2 * luck and 1) less luck (0 at least; drawn if luck is not 0)");
        // DRAW of 99 is 0 from w 0 and 786, 49 from 466 and 724, 98 from 45 and 247
        swung(99, 49, 0, 50);
        swung(99, 49, 786, 50);
        swung(50, 49, 466, 50);
        swung(50, 49, 724, 50);
        swung(99, 49, 45, 148);
        swung(99, 49, 247, 148);
        swung(0, 49, 45, 49);
        swung(49, 49, 0, 0);
        swung(50, 49, 0, 1);
        swung(48, 49, 0, 0);
        swung(0, 49, 0, 0);
        // DRAW of 3 is 0 from w 0 and 7, 1 from 2 and 5, 2 from 1 and 11
        swung(10, 1, 0, 9);
        swung(10, 1, 7, 9);
        swung(10, 1, 2, 10);
        swung(10, 1, 5, 10);
        swung(10, 1, 1, 11);
        swung(10, 1, 11, 11);
        swung(0, 1, 0, 0);
        swung(10, 0, 45, 10);
        BowWalk x = tied("over", "walk w 0 0;luck 0;law l rub 0 pull 0;");
        x.walk(0, 500);
        due("luck 0: not drawn", x.about(8), 1);
        x = tied("over", "walk w 0 0;luck 1;law l rub 0 pull 0;");
        x.walk(0, 1);
        due("luck 1: drawn, though swing is 0", x.about(8), 1103527590);
        x.pull(5);
        x.holds(0, 0, 0, 0);
        x.film(0, 0, 5, 20, 5);
        due("only a WALK in earnest draws", x.about(8), 1103527590);
    }

    private static void draw() {
        check.promise("w becomes w * 1103515245 + 12345 (wrapping; 1 at first); (w >>> 16) modulo n");
        due("1 at first", new BowWalk().about(8), 1);
        int[][] rows = {{1, 1103527590}, {0, 12345}, {2, -2087924461}, {-1, -1103502900}, {MIN, -2147471303}, {MAX, 1043980748}};
        for (int[] row : rows) {
            BowWalk x = tied("over", "walk w 0 0;luck 9;law l rub 0 pull 0;");
            x.seed(row[0]);
            x.walk(0, 1);
            due("behind " + row[0], x.about(8), row[1]);
        }
        // (w >>> 16) of 99: 48697 from w -1, 32768 from the least, 15929 from the greatest
        swung(50, 49, -1, 50 + 88 - 49);
        swung(50, 49, MIN, 50 + 98 - 49);
        swung(50, 49, MAX, 50 + 89 - 49);
        BowWalk x = tied("over", "walk w 0 0;luck 9;law l rub 0 pull 0;");
        int w = 1;
        for (int i = 0; i < 500; i++) {
            w = w * 1103515245 + 12345;
        }
        x.walk(0, 500);
        due("once each STEP", x.about(8), w);
    }

    // ---- promise 7 ----

    private static void tie() {
        check.promise("7: A BOW is tied (in place of another one); NONE, doing nothing, if one can't be");
        BowWalk x = Check.shop("knot a over over;knot b under;" + CORD + "cord d smooth 0 weight 0 long 20;walk w 0 0;"
                + "law l rub 0 pull 50;");
        int[][] wrong = {{2, 0}, {-1, 0}, {0, 2}, {0, -1}, {MIN, 0}, {MAX, 0}, {0, MIN}, {0, MAX}, {6, 4}};
        for (int[] row : wrong) {
            due("tie(" + row[0] + ", " + row[1] + ")", x.tie(row[0], row[1]), -1);
            due("no BOW", x.bow(0), -1);
        }
        due("tie(0, 1)", x.tie(0, 1), 2);
        due("walk", x.walk(0, 1), 5 + 2);
        for (int[] row : wrong) {
            due("tie(" + row[0] + ", " + row[1] + ")", x.tie(row[0], row[1]), -1);
            due("the BOW stays", x.bow(4), 7);
            due("the BOW stays", x.bow(1), 27);
        }
        due("tie(1, 0)", x.tie(1, 0), 1);
        int[] now = {1, 10, 10, 0, 0};
        for (int what = 0; what < 5; what++) {
            due("bow(" + what + ")", x.bow(what), now[what]);
        }
        due("an OPEN one, too", x.walk(0, 500), 100);
        due("tie(0, 0)", x.tie(0, 0), 2);
        due("bow(0)", x.bow(0), 2);
        due("without CORDS", Check.shop("knot a over;").tie(0, 0), -1);
        due("without KNOTS", Check.shop(CORD).tie(0, 0), -1);
    }

    // ---- promise 8 ----

    private static void walkHowManySteps() {
        check.promise("8: So many STEPS (0 .. 500)");
        BowWalk x = tied("over", "walk w 0 0;tight 999;law l rub 0 pull 1;");
        due("0", x.walk(0, 0), 0);
        due("bow(3)", x.bow(3), 0);
        due("1", x.walk(0, 1), 1);
        due("bow(3)", x.bow(3), 1);
        due("500", x.walk(0, 500), 500);
        due("bow(3)", x.bow(3), 501);
        for (int steps : new int[] {501, 502, -1, MIN, MAX}) {
            due(steps + ": NONE", x.walk(0, steps), -1);
            due("nothing done", x.bow(3), 501);
            due("nothing done", x.bow(4), 501);
        }
    }

    private static void walkFromWhere() {
        check.promise("8: from the one behind the latest of it since the BOW was tied (the first, if another WALK was gone, or none)");
        BowWalk x = tied("over", "walk v 1 0 2 0 3 0;walk w 4 0 5 0;tight 999;law l rub 0 pull strike * 10;");
        due("none: the first", x.walk(0, 1), 1);
        due("behind the latest", x.walk(0, 1), 2);
        due("0 STEPS", x.walk(0, 0), 0);
        due("behind the latest", x.walk(0, 1), 3);
        due("round", x.walk(0, 1), 1);
        due("another one: its first", x.walk(1, 1), 4);
        due("behind its latest", x.walk(1, 1), 5);
        due("the first, another was gone", x.walk(0, 1), 1);
        due("refused ones go nowhere", x.walk(1, 501), -1);
        due("refused ones go nowhere", x.walk(2, 1), -1);
        due("a pull goes nowhere", x.pull(0), 0);
        due("questions go nowhere", x.holds(0, 0, 1, 0) > 0 ? 1 : 0, 1);
        due("behind the latest", x.walk(0, 1), 2);
        x.tie(0, 0);
        due("tied anew: the first", x.walk(0, 2), 1 + 2);
    }

    private static void walkRefused() {
        check.promise("8: NONE, doing nothing, without a BOW, if there is none such");
        BowWalk x = Check.shop("knot a over;" + CORD + "walk v 1 0;law l rub 0 pull 10;");
        due("without a BOW", x.walk(0, 1), -1);
        due("without a BOW, 0 STEPS", x.walk(0, 0), -1);
        x.tie(0, 0);
        for (int walk : new int[] {1, 2, 3, 4, -1, MIN, MAX}) {
            due("walk(" + walk + ", 1)", x.walk(walk, 1), -1);
            due("walk(" + walk + ", 0)", x.walk(walk, 0), -1);
            due("nothing done", x.bow(3), 0);
        }
        x = Check.shop("knot a over;" + CORD);
        x.tie(0, 0);
        due("without WALKS", x.walk(0, 0), -1);
    }

    private static void walkMost() {
        check.promise("8: NONE, doing nothing, if there would be more than 100,000");
        BowWalk x = tied("over", "walk v 0 0 0 0 0 0;luck 1;law l rub 1 pull 0;");
        for (int i = 0; i < 199; i++) {
            x.walk(0, 500);
        }
        due("bow(3)", x.bow(3), 99500);
        due("499", x.walk(0, 499), 0);
        int w = x.about(8);
        due("of 100,001", x.walk(0, 2), -1);
        due("of 100,499", x.walk(0, 500), -1);
        due("nothing done", x.bow(3), 99999);
        due("nothing drawn", x.about(8), w);
        due("of 100,000", x.walk(0, 1), 0);
        due("bow(3)", x.bow(3), 100000);
        due("of 100,001", x.walk(0, 1), -1);
        due("0 more", x.walk(0, 0), 0);
        x.image(0);
        x.tie(0, 0);
        due("since it was tied", x.walk(0, 500), 0);
        x.back(0);
        due("an image keeps its STEPS", x.walk(0, 1), -1);
    }

    private static void walkTillOpen() {
        check.promise("8: It ends as it is OPEN");
        BowWalk x = tied("over", "walk v 0 0;luck 1;tight 3;law l rub 0 pull 10;");
        due("walk(0, 500)", x.walk(0, 500), 3);
        due("bow(3)", x.bow(3), 3);
        int w = 1;
        for (int i = 0; i < 3; i++) {
            w = w * 1103515245 + 12345;
        }
        due("three were drawn", x.about(8), w);
        due("OPEN already", x.walk(0, 500), 0);
        due("bow(3)", x.bow(3), 3);
        due("none was drawn", x.about(8), w);
        x = tied("over", "walk v 0 0;tight 3;law l rub 0 pull 10;");
        due("as many STEPS as it holds", x.walk(0, 3), 3);
        due("bow(0)", x.bow(0), 0);
    }

    // ---- promises 9, 10 ----

    private static void pull() {
        check.promise("9: A PULL of p (0 .. 999); NONE, doing nothing, if it can't be, without a BOW, or if it is OPEN");
        BowWalk x = Check.shop("knot a over;" + CORD + "walk w 99 99;law l rub 0 - 10 pull 0;");
        due("without a BOW", x.pull(5), -1);
        x.tie(0, 0);
        for (int p : new int[] {-1, 1000, MIN, MAX}) {
            due("pull(" + p + ")", x.pull(p), -1);
            due("nothing done", x.bow(4), 0);
        }
        due("pull(0)", x.pull(0), 1);
        due("pull(999), no more than it is TIGHT", x.pull(999), 99);
        due("OPEN", x.pull(0), -1);
        due("OPEN", x.pull(999), -1);
        due("bow(4)", x.bow(4), 100);
        due("a PULL by hand is no STEP", x.bow(3), 0);
        check.promise("9: in place of pull e; strike, swing 0");
        x = tied("over", "walk w 99 99;law l rub strike + swing pull 9999;");
        due("9801 above 198", x.walk(0, 1), 100);
        x.tie(0, 0);
        due("1 above 0", x.pull(1), 1);
        due("0 not above 0", x.pull(0), 0);
        // the strike and the swing of a STEP ahead of it are gone
        x = tied("over", "walk w 99 99;law l rub strike + swing pull 0;");
        due("walk", x.walk(0, 1), 0);
        due("1 above 0", x.pull(1), 1);
    }

    private static void bow() {
        check.promise("10: NONE without a BOW, or for another what (a CROSSING that the KNOT has not, too); 0 if it is gone");
        BowWalk x = Check.shop("knot a over;knot b over under;knot c " + "under ".repeat(12) + ";" + CORD + "tight 1;law l rub 0 pull 0;");
        int[] crossings = {1, 2, 12};
        for (int what = -1; what < 30; what++) {
            due("bow(" + what + ")", x.bow(what), -1);
        }
        for (int knot = 0; knot < 3; knot++) {
            x.tie(knot, 0);
            for (int what : new int[] {MIN, -11, -1, 5, 6, 7, 8, 9, 10 + crossings[knot], 22, 30, MAX}) {
                due("bow(" + what + ")", x.bow(what), -1);
            }
            due("the outermost", x.bow(9 + crossings[knot]), 1);
            due("pull(1): all", x.pull(1), crossings[knot]);
            due("CROSSINGS left", x.bow(0), 0);
            for (int i = 0; i < crossings[knot]; i++) {
                due("it is gone", x.bow(10 + i), 0);
            }
            due("what the KNOT has not", x.bow(10 + crossings[knot]), -1);
        }
        check.promise("10: a CROSSING of a BOW tied earlier is none of this one");
        x.tie(2, 0);
        x.tie(0, 0);
        due("bow(11)", x.bow(11), -1);
        due("bow(21)", x.bow(21), -1);
        check.promise("10: what SLIPPED since then: by WALKS and by PULLS");
        x = tied("over", "walk w 0 0;law l rub 0 pull 20;");
        x.walk(0, 3);
        x.pull(30);
        due("bow(4)", x.bow(4), 9);
        due("bow(3)", x.bow(3), 3);
        x.tie(0, 0);
        due("bow(4)", x.bow(4), 0);
        due("bow(3)", x.bow(3), 0);
    }

    // ---- promises 30 to 32 ----

    private static void seed() {
        check.promise("30: w is so much: what it was");
        BowWalk x = new BowWalk();
        int was = 1;
        for (int w : new int[] {0, -1, MIN, MAX, 1, 1}) {
            due("seed(" + w + ")", x.seed(w), was);
            due("about(8)", x.about(8), w);
            was = w;
        }
    }

    private static void image() {
        check.promise("31: kept in a BOX 0 .. 2; NONE if there is none such, or no BOW");
        BowWalk x = Check.shop("knot a over over;" + CORD + "walk w 0 0;tight 4;law l rub 0 pull 20;");
        for (int box = -1; box <= 3; box++) {
            due("no BOW: image(" + box + ")", x.image(box), -1);
            due("nothing was kept", x.back(box), -1);
        }
        x.tie(0, 0);
        for (int box : new int[] {-1, 3, 4, MIN, MAX}) {
            due("image(" + box + ")", x.image(box), -1);
            due("back(" + box + ")", x.back(box), -1);
        }
        due("image(0)", x.image(0), 2);
        due("back(1)", x.back(1), -1);
        due("back(2)", x.back(2), -1);
        due("2 and 1", x.walk(0, 1), 3);
        due("2 and 1: one is gone", x.walk(0, 1), 3);
        due("image(2)", x.image(2), 1);
        due("to the end", x.walk(0, 9), 2);
        due("an OPEN one", x.image(1), 0);
        due("a full BOX takes another", x.image(0), 0);
        due("back(0)", x.back(0), 0);
        due("back(2)", x.back(2), 1);
        due("back(1)", x.back(1), 0);
        due("OPEN", x.pull(5), -1);
        x.tie(0, 0);
        due("image(1)", x.image(1), 2);
        due("other BOXES stay", x.back(2), 1);
        due("other BOXES stay", x.back(0), 0);
    }

    private static void back() {
        check.promise("32: All is as it was kept; NONE, doing nothing, if nothing was");
        BowWalk x = Check.shop("knot a over over;knot b under;" + CORD + "cord d smooth 0 weight 0 long 70;walk w 10 0 20 0 30 0;"
                + "walk v 0 0;luck 3;law l rub 0 pull strike;");
        x.tie(0, 1);
        x.walk(0, 2);
        x.pull(10);
        x.seed(55);
        due("image(1)", x.image(1), 2);
        for (int box : new int[] {0, 2, -1, 3, MIN, MAX}) {
            due("back(" + box + ")", x.back(box), -1);
            due("nothing done", x.bow(3), 2);
        }
        int[] kept = {2, 77, 70, 2, 7};
        x.walk(1, 5);
        x.walk(0, 1);
        x.tie(1, 0);
        x.seed(66);
        for (int i = 0; i < 2; i++) {
            due("back(1)", x.back(1), 2);
            for (int what = 0; what < 5; what++) {
                due("bow(" + what + ")", x.bow(what), kept[what]);
            }
            due("bow(11)", x.bow(11), 96);
            due("bow(10)", x.bow(10), 97);
            due("w", x.about(8), 55);
            due("the next STEP: 3 and 2", x.walk(0, 1), 5);
        }
        check.promise("32: the CORD and the SIDES, too");
        x = Check.shop("knot a over under;knot b over over;cord c smooth 30 weight 50 long 10;cord d smooth 0 weight 0 long 20;walk w 0 0;"
                + "law l rub like * 99 pull smooth + weight;");
        x.tie(0, 0);
        x.image(0);
        x.tie(1, 1);
        due("another CORD", x.walk(0, 1), 0);
        due("back(0)", x.back(0), 2);
        // by 80 the outer one, which is unlike, gives 8, by 32 the inner one 4
        due("walk", x.walk(0, 1), 12);
        due("over", x.bow(1), 14);
        due("under", x.bow(2), 18);
        x.tie(1, 1);
        due("tied anew", x.bow(1), 20);
        check.promise("32: the TIME, FILMS and the TAPE are not kept");
        x.later(3);
        x.film(0, 0, 1, 1, 1);
        x.feed(0, 0, 0, 0, 0);
        x.back(1);
        due("the TIME", x.about(6), 3);
        due("FILMS", x.about(5), 1);
        due("the TAPE", x.about(7), 20);
    }
}
