/** Each sentence of "==== 3." and of the promises 11 to 23 that names an edge has a test of its own here. */
public final class AskEdgeTest {
    private static final Check check = new Check();
    private static final int MIN = Integer.MIN_VALUE;
    private static final int MAX = Integer.MAX_VALUE;
    private static final String CORD = "cord c smooth 0 weight 0 long 10;";
    private static final String KNOT = "knot a over;";
    /** What can't be, where only 0 can. */
    private static final int[] NOT_0 = {-1, 1, 2, 6, MIN, MAX};
    /** Where a limit from 1 to 2,000 stands. */
    private static final int[] NOT_1_TO_2000 = {0, -1, 2001, MIN, MAX};

    public static void main(String[] args) {
        holdsTill2000();
        holdsByLaw0WithoutLuck();
        holdsRefused();
        beginsNotLess();
        beginsTill2000();
        beginsRefused();
        alone();
        undoneFrom0To990();
        undone100Pulls();
        undoneRefused();
        metNoFewerNoMore();
        metRefused();
        meets();
        oddsAFraction();
        oddsRefused();
        worse();
        whichOfLikeOnes();
        bestHowMany();
        bestUndone();
        bestOfLikeOnes();
        bestRefused();
        bothOfLikeOnes();
        bothNothingUndoes();
        bothRefused();
        endsFrom10To990();
        endsRefused();
        changeFrom0To99();
        changeRefused();
        check.close("AskEdgeTest");
    }

    private static void due(String call, long got, long want) {
        check.due(call, got, want);
    }

    /** One CROSSING that gives 1 in one STEP of eight: it is OPEN behind STEP 8 * (tight - 1) + which. */
    private static BowWalk oneOfEight(int tight, int which) {
        StringBuilder walk = new StringBuilder();
        for (int i = 1; i <= 8; i++) {
            walk.append(i == which ? " 1 0" : " 0 0");
        }
        return Check.shop(KNOT + CORD + "walk w" + walk + ";tight " + tight + ";law l rub 0 pull strike;");
    }

    // ---- HOLDS ----

    private static void holdsTill2000() {
        check.promise("HOLDS: STEPS of a WALK till it is OPEN; 2,000 if it is not by then");
        due("OPEN behind 1", oneOfEight(1, 1).holds(0, 0, 0, 0), 1);
        due("OPEN behind 8", oneOfEight(1, 8).holds(0, 0, 0, 0), 8);
        due("OPEN behind 9", oneOfEight(2, 1).holds(0, 0, 0, 0), 9);
        due("OPEN behind 1999", oneOfEight(250, 7).holds(0, 0, 0, 0), 1999);
        due("OPEN behind 2000", oneOfEight(250, 8).holds(0, 0, 0, 0), 2000);
        due("OPEN behind 2001", oneOfEight(251, 1).holds(0, 0, 0, 0), 2000);
        due("never OPEN", oneOfEight(5, 9).holds(0, 0, 0, 0), 2000);
        // nothing slips in seven STEPS, and then it does
        due("OPEN behind 8 of 8", Check.shop(KNOT + CORD + "walk w 0 0 0 0 0 0 0 0 0 0 0 0 0 0 99 99;tight 5;law l rub 0 pull swing;")
                .holds(0, 0, 0, 0), 8);
    }

    private static void holdsByLaw0WithoutLuck() {
        check.promise("By LAW 0 (if no other one is told), without luck, from a BOW newly tied");
        BowWalk x = Check.shop(KNOT + CORD + "walk w 0 10;tight 20;luck 49;law a rub 0 pull swing;law b rub 0 pull 999;"
                + "want v holds 20 pull 999;");
        due("holds", x.holds(0, 0, 0, 0), 20);
        due("holds by LAW 1", x.holds(0, 0, 0, 1), 1);
        due("begins", x.begins(0, 0, 0), 1);
        due("alone", x.alone(0, 0, 0, 1), 20);
        due("met", x.met(0, 0, 0, 0), 1);
        due("odds", x.odds(0, 20, 0), 1);
        due("ends", x.ends(0, 0, 0, 20), -1);
        due("change", x.change(0, 0, 0, 20, 0), 0);
        due("best", x.best(1, 0, 0, 999, 1), 20);
        due("nothing was drawn", x.about(8), 1);
        x.tie(0, 0);
        x.pull(100);
        int slipped = x.bow(4);
        due("of a BOW newly tied", x.holds(0, 0, 0, 0), 20);
        due("undone of one newly tied", x.undone(0, 0), 10);
        due("the BOW stays", x.bow(4), slipped);
        due("the BOW stays", x.bow(3), 0);
        // by LAW 0, though another one was asked just now
        due("holds by LAW 1", x.holds(0, 0, 0, 1), 1);
        due("undone", x.undone(0, 0), 10);
        due("begins", x.begins(0, 0, 0), 1);
        due("which", x.which(0, 0, 0), 0);
        due("best", x.best(1, 0, 0, 999, 1), 20);
    }

    private static void holdsRefused() {
        check.promise("11: HOLDS by a LAW (0 without LAWS, too); NONE if one can't be");
        BowWalk x = Check.shop(KNOT + CORD + "walk w 0 10;");
        due("0 without LAWS", x.holds(0, 0, 0, 0), 2000);
        for (int no : NOT_0) {
            due("LAW " + no, x.holds(0, 0, 0, no), -1);
            due("WALK " + no, x.holds(0, 0, no, 0), -1);
            due("CORD " + no, x.holds(0, no, 0, 0), -1);
            due("KNOT " + no, x.holds(no, 0, 0, 0), -1);
        }
        x = Check.shop(KNOT + CORD + "walk w 0 10;law a rub 0 pull 999;law b rub 0 pull 990;law c rub 0 pull 0;tight 99;");
        due("LAW 0", x.holds(0, 0, 0, 0), 1);
        due("LAW 1", x.holds(0, 0, 0, 1), 1);
        due("LAW 2", x.holds(0, 0, 0, 2), 2000);
        for (int law : new int[] {-1, 3, 4, MIN, MAX}) {
            due("LAW " + law, x.holds(0, 0, 0, law), -1);
        }
        due("without WALKS", Check.shop(KNOT + CORD).holds(0, 0, 0, 0), -1);
        due("without CORDS", Check.shop(KNOT + "walk w 0 10;").holds(0, 0, 0, 0), -1);
        due("without KNOTS", Check.shop(CORD + "walk w 0 10;").holds(0, 0, 0, 0), -1);
    }

    // ---- BEGINS, ALONE ----

    private static void begun(int tight, String walk, int want) {
        BowWalk x = Check.shop(KNOT + CORD + "walk w " + walk + ";tight " + tight + ";law l rub 0 pull strike * 10;");
        due("begins, tight " + tight + ", " + walk, x.begins(0, 0, 0), want);
    }

    private static void beginsNotLess() {
        check.promise("BEGINS: the first STEP from which on what SLIPS is more than 0 and not less than ahead of it, till it is OPEN");
        begun(6, "2 0", 1);
        begun(6, "1 0 2 0 3 0", 1);
        begun(6, "3 0 1 0 2 0", 3);
        begun(6, "2 0 1 0 3 0", 3);
        begun(5, "3 0 2 0", -1);
        begun(7, "2 0", -1);
        begun(1, "9 0", 1);
        check.promise("BEGINS: more than 0");
        begun(6, "0 0 6 0", 2);
        begun(6, "3 0 0 0", 3);
        begun(6, "0 0 0 0 1 0 1 0", 11);
        begun(2, "0 0 0 0 1 0 1 0", 3);
        check.promise("BEGINS: (of the first STEP: more than 0)");
        begun(1, "1 0", 1);
        begun(1, "0 0 1 0", 2);
        check.promise("BEGINS: what SLIPS in all of a STEP");
        BowWalk x = Check.shop("knot a over over;" + CORD + "walk w 0 0;tight 4;law l rub 0 pull 10;");
        due("2 2 2 2", x.begins(0, 0, 0), 1);
        x = Check.shop("knot a over over;" + CORD + "walk w 0 0;tight 4;law l rub (place = 0) * 3 pull 20 - (place = 0) * 10;");
        // 2 and 1, 2 and 1; then of 2 left by 7: 1, 1
        due("3 3 1 1", x.begins(0, 0, 0), 4);
    }

    private static void beginsTill2000() {
        check.promise("BEGINS: (none if it is not OPEN in 2,000, or there is no such one)");
        due("OPEN behind 1999", oneOfEight(250, 7).begins(0, 0, 0), 1999);
        due("OPEN behind 2000", oneOfEight(250, 8).begins(0, 0, 0), 2000);
        due("OPEN behind 2001", oneOfEight(251, 1).begins(0, 0, 0), -1);
        due("never OPEN", oneOfEight(250, 9).begins(0, 0, 0), -1);
        begun(3, "2 0", -1);
    }

    private static void beginsRefused() {
        check.promise("12: NONE if there is none, or one can't be");
        BowWalk x = Check.shop(KNOT + CORD + "walk w 9 9;law l rub 0 pull 9;");
        due("begins", x.begins(0, 0, 0), 1);
        for (int no : NOT_0) {
            due("KNOT " + no, x.begins(no, 0, 0), -1);
            due("CORD " + no, x.begins(0, no, 0), -1);
            due("WALK " + no, x.begins(0, 0, no), -1);
        }
    }

    private static void alone() {
        check.promise("ALONE: HOLDS with all swings 0 (0), all strikes 0 (1)");
        BowWalk x = Check.shop(KNOT + CORD + "walk w 99 1 1 99;tight 30;law l rub 0 pull strike + swing * 2;");
        due("holds: 11 20", x.holds(0, 0, 0, 0), 2);
        due("10 1 10 1 8", x.alone(0, 0, 0, 0), 5);
        due("1 20 1 8", x.alone(0, 0, 0, 1), 4);
        due("the WALK stays", x.holds(0, 0, 0, 0), 2);
        x = Check.shop(KNOT + CORD + "walk w 1 9 2 9 3 9 4 9 5 9 6 9 7 9 8 99;tight 135;law l rub 0 pull strike * 10 + swing * 20;");
        due("19 .. 25, by the seventh 154", x.holds(0, 0, 0, 0), 7);
        due("36 a round of eight", x.alone(0, 0, 0, 0), 8 * 3 + 7);
        due("18 seven times, then the rest", x.alone(0, 0, 0, 1), 8);
        due("2,000 if it is not OPEN", Check.shop(KNOT + CORD + "walk w 99 99;law l rub 0 pull swing;").alone(0, 0, 0, 0), 2000);
        check.promise("13: NONE if one can't be");
        for (int what : new int[] {-1, 2, MIN, MAX}) {
            due("what " + what, x.alone(0, 0, 0, what), -1);
        }
        for (int no : NOT_0) {
            due("KNOT " + no, x.alone(no, 0, 0, 0), -1);
            due("CORD " + no, x.alone(0, no, 0, 0), -1);
            due("WALK " + no, x.alone(0, 0, no, 1), -1);
        }
    }

    // ---- UNDONE ----

    private static int undoneBy(String rub, int tight) {
        return Check.shop(KNOT + CORD + "tight " + tight + ";law l rub " + rub + " pull 9999;").undone(0, 0);
    }

    private static void undoneFrom0To990() {
        check.promise("UNDONE: the least p (0, 10, 20, .. 990)");
        due("by 0", undoneBy("0-1", 1), 0);
        due("not by 0", undoneBy("0", 1), 10);
        due("by 10", undoneBy("9", 1), 10);
        due("not by 10", undoneBy("10", 1), 20);
        due("by 990", undoneBy("989", 1), 990);
        due("not by 990", undoneBy("990", 1), -1);
        due("not by 999 either", undoneBy("995", 1), -1);
        check.promise("UNDONE: in place of pull e; strike, swing 0");
        due("strike, swing 0", undoneBy("strike * 99 + swing * 99", 1), 10);
        check.promise("UNDONE: till nothing SLIPS");
        // by 30 the first PULL gives 1, the second can give nothing; by 310 all is given at once
        due("stuck", undoneBy("25 + (tight < 30) * 9999", 30), 320);
        check.promise("UNDONE: by none");
        due("stuck for ever", undoneBy("(tight < 999) * 9999", 999), -1);
    }

    private static void undone100Pulls() {
        check.promise("UNDONE: PULLS one behind the other, 100 at most");
        due("99 PULLS of 1", undoneBy("0", 99), 10);
        due("100 PULLS of 1", undoneBy("0", 100), 10);
        due("101 PULLS of 1", undoneBy("0", 101), 20);
        due("100 PULLS of 2", undoneBy("0", 200), 20);
        due("101 PULLS of 2", undoneBy("0", 201), 30);
        due("999 in 100 PULLS of 10", undoneBy("0", 999), 100);
        BowWalk x = Check.shop("knot a over over;" + CORD + "tight 50;law l rub (place = 0) * 9 pull 0;");
        // by 10 the outer one gives 1 each time, 50 times, and the inner one, by 4, nothing; then 1 each time, 50 times
        due("100 PULLS", x.undone(0, 0), 10);
        x = Check.shop("knot a over over;" + CORD + "tight 51;law l rub (place = 0) * 9 pull 0;");
        due("not 102 PULLS", x.undone(0, 0), 20);
    }

    private static void undoneRefused() {
        check.promise("14: NONE if none opens it, or one can't be");
        BowWalk x = Check.shop(KNOT + CORD + "law l rub 9999 pull 0;law m rub 0 pull 0;");
        due("none opens it", x.undone(0, 0), -1);
        x = Check.shop(KNOT + CORD + "law l rub 0 pull 0;");
        due("without WALKS", x.undone(0, 0), 10);
        for (int no : NOT_0) {
            due("KNOT " + no, x.undone(no, 0), -1);
            due("CORD " + no, x.undone(0, no), -1);
        }
        due("the untold LAW", Check.shop(KNOT + CORD + "tight 10;").undone(0, 0), 20);
    }

    // ---- WANTS ----

    /** It HOLDS 10, its UNDONE is 30. */
    private static BowWalk wanted(String wants) {
        return Check.shop(KNOT + CORD + "walk w 0 0;tight 20;law l rub 25 pull 45;" + wants);
    }

    private static void metNoFewerNoMore() {
        check.promise("A WANT is MET, if it HOLDS no fewer STEPS, and its UNDONE is no more than pull");
        BowWalk x = wanted("want a holds 10 pull 30;want b holds 11 pull 30;want c holds 10 pull 29;want d holds 9 pull 31;");
        due("holds", x.holds(0, 0, 0, 0), 10);
        due("undone", x.undone(0, 0), 30);
        due("as many, as much", x.met(0, 0, 0, 0), 1);
        due("it HOLDS one fewer", x.met(1, 0, 0, 0), 0);
        due("its UNDONE is more", x.met(2, 0, 0, 0), 0);
        due("more, less", x.met(3, 0, 0, 0), 1);
        x = wanted("want a holds 1 pull 0;want b holds 2000 pull 999;want c holds 1 pull 999;want d holds 2000 pull 0;");
        int[] met = {0, 0, 1, 0};
        for (int want = 0; want < 4; want++) {
            due("met(" + want + ")", x.met(want, 0, 0, 0), met[want]);
        }
        x = Check.shop(KNOT + CORD + "walk w 0 0;tight 20;law l rub 0-(strike=0) pull 0-9;want a holds 2000 pull 0;");
        due("2000 and 0", x.met(0, 0, 0, 0), 1);
        x = Check.shop(KNOT + CORD + "walk w 0 0;tight 20;law l rub 995 pull 9999;want a holds 1 pull 999;");
        due("nothing undoes it", x.met(0, 0, 0, 0), 0);
    }

    private static void metRefused() {
        check.promise("15: NONE if one can't be");
        BowWalk x = wanted("want a holds 1 pull 999;");
        due("met", x.met(0, 0, 0, 0), 1);
        for (int no : NOT_0) {
            due("WANT " + no, x.met(no, 0, 0, 0), -1);
            due("KNOT " + no, x.met(0, no, 0, 0), -1);
            due("CORD " + no, x.met(0, 0, no, 0), -1);
            due("WALK " + no, x.met(0, 0, 0, no), -1);
        }
        due("without WANTS", wanted("").met(0, 0, 0, 0), -1);
    }

    private static void meets() {
        check.promise("16: The KNOTS by which a WANT is MET, as bits; NONE likewise");
        StringBuilder knots = new StringBuilder();
        for (int i = 0; i < 6; i++) {
            knots.append("knot ").append((char) ('a' + i)).append(" over".repeat(i + 1)).append(";");
        }
        // all slip: OPEN in 1 STEP; only the outermost one slips: as many STEPS as CROSSINGS
        BowWalk x = Check.shop(knots + CORD + "walk w 0 0;tight 1;law l rub 0 pull 1;want a holds 1 pull 10;want b holds 2 pull 10;");
        due("all of 6", x.meets(0, 0, 0), 63);
        due("none", x.meets(1, 0, 0), 0);
        x = Check.shop(knots + CORD + "walk w 0 0;tight 1;law l rub 5 pull 6;want a holds 3 pull 10;want b holds 6 pull 10;"
                + "want c holds 7 pull 10;");
        due("3 and more", x.meets(0, 0, 0), 60);
        due("the last", x.meets(1, 0, 0), 32);
        due("none", x.meets(2, 0, 0), 0);
        for (int no : new int[] {-1, 3, MIN, MAX}) {
            due("WANT " + no, x.meets(no, 0, 0), -1);
        }
        for (int no : NOT_0) {
            due("CORD " + no, x.meets(0, no, 0), -1);
            due("WALK " + no, x.meets(0, 0, no), -1);
        }
        due("no KNOTS", Check.shop(CORD + "walk w 0 0;want a holds 1 pull 0;").meets(0, 0, 0), 0);
        due("no WANTS", Check.shop(KNOT + CORD + "walk w 0 0;").meets(0, 0, 0), -1);
    }

    // ---- ODDS ----

    private static void share(BowWalk x, int n, int upper, int lower) {
        due("odds(0, " + n + ", 0)", x.odds(0, n, 0), upper);
        due("odds(0, " + n + ", 1)", x.odds(0, n, 1), lower);
    }

    private static void oddsAFraction() {
        check.promise("ODDS: of all CORDS and WALKS together the share by which it HOLDS n or more, in lowest terms");
        String cords = CORD + "cord d smooth 1 weight 0 long 10;cord e smooth 2 weight 0 long 10;cord f smooth 3 weight 0 long 10;";
        // it is OPEN behind 1 STEP where smooth is below strike, never elsewhere: 10 of 16 are
        BowWalk x = Check.shop(KNOT + cords + "walk a 1 0;walk b 2 0;walk c 3 0;walk d 4 0;law l rub smooth pull smooth + (smooth < strike) * 9999;");
        share(x, 1, 1, 1);
        share(x, 2, 3, 8);
        share(x, 1999, 3, 8);
        share(x, 2000, 3, 8);
        check.promise("ODDS: n or more");
        x = oneOfEight(250, 7);
        share(x, 1998, 1, 1);
        share(x, 1999, 1, 1);
        share(x, 2000, 0, 1);
        share(oneOfEight(250, 8), 2000, 1, 1);
        check.promise("ODDS: none of them: 0 of 1");
        share(Check.shop(KNOT + cords + "walk a 1 0;walk b 1 0;walk c 1 0;tight 1;law l rub 0 pull 1;"), 2, 0, 1);
        check.promise("ODDS: 6 of 12, 5 of 12");
        x = Check.shop(KNOT + cords + "walk a 0 0;walk b 1 0;walk c 2 0;law l rub 0 pull (smooth + strike > 2) * 9999;");
        // smooth 0, 1, 2 on the first WALK, 0, 1 on the second, 0 on the third: 6 of 12
        share(x, 2, 1, 2);
        // none on the first WALK, smooth 0, 1, 2 on the second, 0, 1 on the third
        x = Check.shop(KNOT + cords + "walk a 9 0;walk b 1 0;walk c 2 0;law l rub 0 pull (smooth + strike > 3) * 9999;");
        share(x, 2, 5, 12);
    }

    private static void oddsRefused() {
        check.promise("17: (n 1 .. 2000); NONE if one can't be, or there are not both");
        BowWalk x = wanted("");
        for (int no : NOT_1_TO_2000) {
            due("n " + no, x.odds(0, no, 0), -1);
            due("n " + no, x.odds(0, no, 1), -1);
        }
        for (int no : new int[] {-1, 2, MIN, MAX}) {
            due("part " + no, x.odds(0, 1, no), -1);
        }
        for (int no : NOT_0) {
            due("KNOT " + no, x.odds(no, 1, 0), -1);
        }
        due("CORDS alone", Check.shop(KNOT + CORD).odds(0, 1, 1), -1);
        due("WALKS alone", Check.shop(KNOT + "walk w 1 1;").odds(0, 1, 1), -1);
        due("neither", Check.shop(KNOT).odds(0, 1, 1), -1);
    }

    // ---- WORSE, WHICH ----

    /** Outer ones that are like hold for ever; unlike ones give 2 a STEP, and 1 further in. */
    private static BowWalk like(String knots) {
        return Check.shop(knots + CORD + "walk w 0 0;tight 10;law l rub like * 50 pull 20;");
    }

    private static void worse() {
        check.promise("18: WORSE by a CROSSING (it may be below 0); -10000 if one can't be");
        BowWalk x = like("knot a over over;knot b over under;knot c over;knot d" + " over".repeat(12) + ";");
        due("it HOLDS 2000, turned 8", x.worse(0, 0, 0, 0), 1992);
        due("the last CROSSING", x.worse(0, 0, 0, 1), 1992);
        due("below 0", x.worse(1, 0, 0, 0), -1992);
        due("one CROSSING: the same", x.worse(2, 0, 0, 0), 0);
        due("of 12 the last", x.worse(3, 0, 0, 11), 0);
        for (int no : new int[] {-1, 2, 3, 12, 31, 32, 33, MIN, MAX}) {
            due("CROSSING " + no, x.worse(0, 0, 0, no), -10000);
        }
        due("CROSSING 1 of one", x.worse(2, 0, 0, 1), -10000);
        due("CROSSING 12 of 12", x.worse(3, 0, 0, 12), -10000);
        for (int no : new int[] {-1, 4, 6, MIN, MAX}) {
            due("KNOT " + no, x.worse(no, 0, 0, 0), -10000);
        }
        for (int no : NOT_0) {
            due("CORD " + no, x.worse(0, no, 0, 0), -10000);
            due("WALK " + no, x.worse(0, 0, no, 0), -10000);
        }
        due("the KNOT stays", x.knot(0, 1), 0);
        due("the KNOT stays", x.holds(0, 0, 0, 0), 2000);
    }

    private static void whichOfLikeOnes() {
        check.promise("WHICH: the CROSSING by which that is most; of like ones the first");
        BowWalk x = like("knot a over over;knot b over under;knot c over;knot d" + " over".repeat(12) + ";");
        due("both 1992", x.which(0, 0, 0), 0);
        due("both -1992", x.which(1, 0, 0), 0);
        due("one CROSSING", x.which(2, 0, 0), 0);
        due("all 0", x.which(3, 0, 0), 0);
        // the outermost one must be unlike and the middle one like: only a turn of the last does it
        String law = "walk w 0 0;tight 10;law l rub (place=2)*like*50+(place=1)*(1-like)*50 pull 20;";
        x = Check.shop("knot a over over over;" + CORD + law);
        due("worse by 0", x.worse(0, 0, 0, 0), 0);
        due("worse by 1", x.worse(0, 0, 0, 1), 0);
        check.isTrue("worse by 2", x.worse(0, 0, 0, 2) > 0);
        due("the last", x.which(0, 0, 0), 2);
        // all below 0: by 0 and by 1 it holds for ever, by 2 only somewhat longer
        x = Check.shop("knot a over over under;" + CORD + "walk w 0 0;tight 10;law l rub (place=2)*like*15+(place=1)*(1-like)*50 pull 20;");
        due("worse by 0", x.worse(0, 0, 0, 0) < -1900 ? 1 : 0, 1);
        due("worse by 1", x.worse(0, 0, 0, 1) < -1900 ? 1 : 0, 1);
        check.isTrue("worse by 2 is below 0, too", x.worse(0, 0, 0, 2) < 0 && x.worse(0, 0, 0, 2) > -100);
        due("that which is most", x.which(0, 0, 0), 2);
        check.promise("WHICH: the first, the middle, the last of three");
        // HOLDS are 7 if none is like, 9 if the middle one is, 10 if the outermost one is, 17 if both are
        String knots = "knot a over over over;knot b over under over;knot c over under under;";
        x = Check.shop(knots + CORD + "walk w 0 0;tight 10;law l rub like * place * 10 pull 30;");
        int[][] worse = {{7, 10, 8}, {-2, -10, -3}, {-7, 1, 3}};
        int[] which = {1, 0, 2};
        for (int knot = 0; knot < 3; knot++) {
            for (int i = 0; i < 3; i++) {
                due("worse(" + knot + ", 0, 0, " + i + ")", x.worse(knot, 0, 0, i), worse[knot][i]);
            }
            due("which(" + knot + ", 0, 0)", x.which(knot, 0, 0), which[knot]);
        }
        check.promise("19: NONE if one can't be");
        x = like("knot a over over;");
        for (int no : NOT_0) {
            due("KNOT " + no, x.which(no, 0, 0), -1);
            due("CORD " + no, x.which(0, no, 0), -1);
            due("WALK " + no, x.which(0, 0, no), -1);
        }
    }

    // ---- BEST ----

    private static void bestHowMany() {
        check.promise("BEST of n CROSSINGS (1 .. 6): the innermost one over");
        BowWalk x = like("");
        int[] sides = {0, 0, 2, 2, 10, 10, 42};
        for (int n = 1; n <= 6; n++) {
            // like ones are undone by 60; unlike ones by 10, and all of them must be so
            due("best of " + n, x.best(n, 0, 0, 10, 0), sides[n]);
            due("its UNDONE", x.best(n, 0, 0, 10, 2), 10);
        }
        for (int n : new int[] {0, -1, 7, 8, MIN, MAX}) {
            for (int what = 0; what < 3; what++) {
                due("best of " + n, x.best(n, 0, 0, 999, what), -1);
            }
        }
        due("without KNOTS told", x.about(0), 0);
    }

    private static void bestUndone() {
        check.promise("BEST: of all rows whose UNDONE is no more than p");
        BowWalk x = like("");
        int[][] rows = {{60, 0, 2000, 60}, {61, 0, 2000, 60}, {999, 0, 2000, 60}, {59, 2, 8, 10}, {10, 2, 8, 10}, {11, 2, 8, 10},
            {9, -1, -1, -1}, {0, -1, -1, -1}};
        for (int[] row : rows) {
            for (int what = 0; what < 3; what++) {
                due("p " + row[0] + ", what " + what, x.best(2, 0, 0, row[0], what), row[1 + what]);
            }
        }
        x = Check.shop(CORD + "walk w 0 0;tight 7;law l rub 0-1 pull 0;");
        due("p 0, UNDONE 0", x.best(1, 0, 0, 0, 2), 0);
        due("p 0, HOLDS", x.best(1, 0, 0, 0, 1), 7);
        x = Check.shop(CORD + "walk w 0 0;tight 7;law l rub 989 pull 999;");
        due("p 990, UNDONE 990", x.best(1, 0, 0, 990, 2), 990);
        due("p 989", x.best(1, 0, 0, 989, 2), -1);
        x = Check.shop(CORD + "walk w 0 0;tight 7;law l rub 990 pull 999;");
        due("p 999: nothing undoes it", x.best(1, 0, 0, 999, 0), -1);
        due("p 999: nothing undoes it", x.best(1, 0, 0, 999, 1), -1);
    }

    private static void bestOfLikeOnes() {
        check.promise("BEST: that which HOLDS longest; of like ones the least number");
        BowWalk x = Check.shop(CORD + "walk w 0 0;law l rub 0 pull 10;");
        for (int n = 1; n <= 6; n++) {
            due("all alike, of " + n, x.best(n, 0, 0, 999, 0), 0);
        }
        // like outer ones give all at once, unlike ones hold: 2 and 6 are as good at the outermost of three
        x = Check.shop(CORD + "walk w 0 0;tight 9;law l rub (place=2)*(1-like)*50 pull 20;");
        due("the outermost unlike: 2 ahead of 4", x.best(3, 0, 0, 999, 0), 2);
        due("HOLDS 2000", x.best(3, 0, 0, 999, 1), 2000);
    }

    private static void bestRefused() {
        check.promise("20: NONE if none is so, or one can't be (p 0 .. 999)");
        BowWalk x = like("");
        due("best", x.best(2, 0, 0, 999, 0), 0);
        for (int p : new int[] {-1, 1000, MIN, MAX}) {
            due("p " + p, x.best(2, 0, 0, p, 0), -1);
        }
        for (int what : new int[] {-1, 3, MIN, MAX}) {
            due("what " + what, x.best(2, 0, 0, 999, what), -1);
        }
        for (int no : NOT_0) {
            due("CORD " + no, x.best(2, no, 0, 999, 0), -1);
            due("WALK " + no, x.best(2, 0, no, 999, 0), -1);
        }
    }

    // ---- BOTH ----

    private static void bothOfLikeOnes() {
        check.promise("BOTH: KNOTS of which no other one is as good in both, and better in one of both");
        BowWalk x = like("knot a over over;knot b over under;knot c over;knot d under over;knot e under under;");
        // 2000 by 60; 8 by 10; 5 by 10; 8 by 10; 2000 by 60
        due("like ones stay; c HOLDS less than b by the same", x.both(0, 0), 1 + 2 + 8 + 16);
        due("one KNOT", like("knot a over;").both(0, 0), 1);
        due("the first one is better", like("knot b over under;knot c over;").both(0, 0), 1);
        due("the last one is better", like("knot c over;knot b over under;").both(0, 0), 2);
        due("six alike", like("knot a over;knot b over;knot c over;knot d under;knot e under;knot f over;").both(0, 0), 63);
        due("no KNOTS", like("").both(0, 0), 0);
        // both HOLD 2000, one is undone by less
        x = Check.shop("knot a over over;knot b over under;" + CORD + "walk w 0 0;law l rub like * 50 pull 0;");
        due("as long, UNDONE by less", x.both(0, 0), 2);
    }

    private static void bothNothingUndoes() {
        check.promise("21: one that nothing undoes counts as 1000");
        // a: 2000, nothing; b: 1 STEP, nothing; c as a
        BowWalk x = Check.shop("knot a over over;knot b over;knot c under under;" + CORD
                + "walk w 1 0;tight 10;law l rub like * 5000 + (strike = 0) * 990 pull 99;");
        due("undone", x.undone(0, 0), -1);
        due("undone", x.undone(1, 0), -1);
        due("holds", x.holds(1, 0, 0, 0), 1);
        due("as hard, HOLDS less", x.both(0, 0), 5);
        // a: 2000, nothing; b: 2000, 990
        x = Check.shop("knot a over over;knot b over;" + CORD + "walk w 0 0;tight 10;law l rub 980 + like * 10 pull 0;");
        due("undone", x.undone(0, 0), -1);
        due("undone", x.undone(1, 0), 990);
        due("990 is better than nothing", x.both(0, 0), 2);
    }

    private static void bothRefused() {
        check.promise("21: NONE if one can't be");
        BowWalk x = like(KNOT);
        for (int no : NOT_0) {
            due("CORD " + no, x.both(no, 0), -1);
            due("WALK " + no, x.both(0, no), -1);
        }
        due("without WALKS", Check.shop(KNOT + CORD).both(0, 0), -1);
        due("without CORDS", Check.shop(KNOT + "walk w 0 0;").both(0, 0), -1);
    }

    // ---- ENDS, CHANGE ----

    private static int endsBy(String pull, int length, int n) {
        return Check.shop(KNOT + "cord c smooth 0 weight 0 long " + length + ";walk w 0 0;tight 10;law l rub 0 pull " + pull + ";")
                .ends(0, 0, 0, n);
    }

    private static void endsFrom10To990() {
        check.promise("ENDS: the least long (10, 20, .. 990, in place of the CORD's)");
        due("10", endsBy("100", 999, 2), 10);
        due("10, of long 1", endsBy("100", 1, 2), 10);
        due("not 10", endsBy("(long > 10) * 100", 5, 2), 20);
        due("by tens", endsBy("(long > 101) * 100", 5, 2), 110);
        due("990", endsBy("(long > 980) * 100", 5, 2), 990);
        due("none: 991 and more is not asked", endsBy("(long > 990) * 100", 999, 2), -1);
        due("none: below 10 is not asked", endsBy("(long < 10) * 100", 5, 2), -1);
        check.promise("ENDS: fewer than n STEPS");
        // 1 each STEP: it HOLDS 10
        due("n 10", endsBy("10", 5, 10), -1);
        due("n 11", endsBy("10", 5, 11), 10);
        due("n 1", endsBy("9999", 5, 1), -1);
        due("n 2000, HOLDS 2000", endsBy("0", 5, 2000), -1);
        due("n 2000, HOLDS 10", endsBy("10", 5, 2000), 10);
        BowWalk x = oneOfEight(250, 7);
        due("n 2000, HOLDS 1999", x.ends(0, 0, 0, 2000), 10);
        due("n 1999, HOLDS 1999", x.ends(0, 0, 0, 1999), -1);
    }

    private static void endsRefused() {
        check.promise("22: NONE if there is none, or one can't be (n 1 .. 2000)");
        BowWalk x = wanted("");
        due("ends", x.ends(0, 0, 0, 11), 10);
        for (int no : NOT_1_TO_2000) {
            due("n " + no, x.ends(0, 0, 0, no), -1);
        }
        for (int no : NOT_0) {
            due("KNOT " + no, x.ends(no, 0, 0, 11), -1);
            due("CORD " + no, x.ends(0, no, 0, 11), -1);
            due("WALK " + no, x.ends(0, 0, no, 11), -1);
        }
        x.tie(0, 0);
        due("the CORD stays", x.bow(1), 10);
    }

    private static void changeFrom0To99() {
        check.promise("CHANGE: the least d (0 .. 99) so that, all swings less by d (0 at least), it HOLDS n or more");
        BowWalk x = Check.shop(KNOT + CORD + "walk w 7 99 7 50;tight 10;law l rub 0 pull (swing > 0) * 100;");
        due("it HOLDS so already: 0", x.change(0, 0, 0, 1, 0), 0);
        due("n 2: the first STEP gives nothing by 99, nor the second", x.change(0, 0, 0, 2, 0), 99);
        due("n 2000: all are 0", x.change(0, 0, 0, 2000, 0), 99);
        due("strikes don't count", x.change(0, 0, 0, 2, 1), -1);
        x = Check.shop(KNOT + CORD + "walk w 7 50 7 99;tight 10;law l rub 0 pull (swing > 0) * 100;");
        due("n 2: by 50 the first", x.change(0, 0, 0, 2, 0), 50);
        due("n 3: by 99 the second", x.change(0, 0, 0, 3, 0), 99);
        // below 0 it would pull more than at 0
        x = Check.shop(KNOT + CORD + "walk w 7 1 7 99;tight 10;law l rub 0 pull swing * swing;");
        due("0 at least", x.change(0, 0, 0, 2000, 0), 99);
        check.promise("CHANGE: likewise for strikes");
        x = Check.shop(KNOT + CORD + "walk w 99 7 50 7;tight 10;law l rub 0 pull (strike > 0) * 100;");
        due("0", x.change(0, 0, 0, 1, 1), 0);
        due("99", x.change(0, 0, 0, 2, 1), 99);
        due("swings don't count", x.change(0, 0, 0, 2, 0), -1);
        check.promise("CHANGE: of eight STEPS");
        x = Check.shop(KNOT + CORD + "walk w 0 1 0 2 0 3 0 4 0 5 0 6 0 7 0 8;tight 36;law l rub 0 pull swing * 10;");
        due("36 a round", x.change(0, 0, 0, 8, 0), 0);
        // less by 1: 28 a round, then 0 1 2 3 4 5 in the next one; by 2: 21, then 15 by 1 to 5 behind two of 0, 7 of 8 STEPS
        due("n 9", x.change(0, 0, 0, 9, 0), 1);
        due("n 13", x.change(0, 0, 0, 13, 0), 1);
        due("n 14", x.change(0, 0, 0, 14, 0), 2);
        due("n 2000", x.change(0, 0, 0, 2000, 0), 8);
        check.promise("CHANGE: none, though all are 0");
        x = Check.shop(KNOT + CORD + "walk w 99 99;walk v 0 0;tight 10;law l rub 0 pull 10;");
        due("n 11", x.change(0, 0, 0, 11, 0), -1);
        due("n 11", x.change(0, 0, 0, 11, 1), -1);
        due("n 11, all are 0 at first", x.change(0, 0, 1, 11, 0), -1);
        due("n 10, all are 0 at first", x.change(0, 0, 1, 10, 1), 0);
        check.promise("CHANGE: the least, though a greater one would not do");
        x = Check.shop(KNOT + CORD + "walk w 0 30;tight 10;law l rub 0 pull ((swing = 20) < 1) * 100;");
        due("10", x.change(0, 0, 0, 2, 0), 10);
    }

    private static void changeRefused() {
        check.promise("23: NONE likewise");
        BowWalk x = wanted("");
        due("change", x.change(0, 0, 0, 10, 0), 0);
        for (int no : NOT_1_TO_2000) {
            due("n " + no, x.change(0, 0, 0, no, 0), -1);
        }
        for (int no : new int[] {-1, 2, MIN, MAX}) {
            due("what " + no, x.change(0, 0, 0, 1, no), -1);
        }
        for (int no : NOT_0) {
            due("KNOT " + no, x.change(no, 0, 0, 1, 0), -1);
            due("CORD " + no, x.change(0, no, 0, 1, 0), -1);
            due("WALK " + no, x.change(0, 0, no, 1, 1), -1);
        }
    }
}
