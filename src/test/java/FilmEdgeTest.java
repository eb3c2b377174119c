/** Each sentence of "==== 4." and of the promises 24 to 29 and 33 that names an edge has a test of its own here. */
public final class FilmEdgeTest {
    private static final Check check = new Check();
    private static final int MIN = Integer.MIN_VALUE;
    private static final int MAX = Integer.MAX_VALUE;
    private static final String CORD = "cord c smooth 0 weight 0 long 10;";
    private static final String KNOT = "knot a over;";

    public static void main(String[] args) {
        films40();
        timeGoesOn();
        filmSteps();
        filmLength();
        filmOff();
        filmRefused();
        toldAtKOrBefore();
        untoldAtKOrBefore();
        untell();
        later();
        fitsWithoutLaws();
        fitsWithoutCords();
        fitsAllPairs();
        fitsAllFilms();
        filmOfItsKnotAndWalk();
        fitsWithoutLuck();
        partsSteps();
        partsOfLikeOnes();
        partsRefused();
        beganInItsSteps();
        beganRefused();
        about();
        check.close("FilmEdgeTest");
    }

    private static void due(String call, long got, long want) {
        check.due(call, got, want);
    }

    /** Behind n STEPS both ENDS together are 20 + n LONG, till it is OPEN at 120. */
    private static BowWalk oneEachStep() {
        return Check.shop(KNOT + CORD + "walk w 0 0;law l rub 0 pull 10;");
    }

    // ---- FILMS ----

    private static void films40() {
        check.promise("FILMS, 40 at most; 24: NONE, doing nothing, if there are 40");
        BowWalk x = oneEachStep();
        for (int i = 0; i < 40; i++) {
            due("about(5)", x.about(5), i);
            due("film", x.film(0, 0, 1, 21, 0), i);
        }
        due("fits", x.fits(0), 1);
        due("a 41st", x.film(0, 0, 1, 99, 0), -1);
        due("about(5)", x.about(5), 40);
        due("it does not count", x.fits(0), 1);
        check.due("there is none such", x.untell(40), false);
        due("there is none such", x.began(40, 0), -1);
        due("the 40th", x.began(39, 0), 1);
        check.due("UNTOLD ones are FILMS", x.untell(0), true);
        due("a 41st", x.film(0, 0, 1, 21, 0), -1);
        Check.tape(x, KNOT + CORD + "walk w 0 0;");
        x.shop();
        due("of a new SHOP", x.film(0, 0, 1, 21, 0), 0);
    }

    private static void timeGoesOn() {
        check.promise("FILMS are TOLD at a TIME (0 at first, goes on)");
        BowWalk x = oneEachStep();
        due("0 at first", x.about(6), 0);
        x.film(0, 0, 1, 99, 0);
        due("known at 0", x.fits(0), 0);
        due("not at -1", x.fits(-1), 1);
        x.later(3);
        Check.tape(x, KNOT + CORD + "walk w 0 0;law l rub 0 pull 10;");
        x.shop();
        due("a new SHOP goes on in it", x.about(6), 3);
        x.film(0, 0, 1, 99, 0);
        due("known at 3", x.fits(3), 0);
        due("not at 2", x.fits(2), 1);
    }

    private static int filmed(int steps, int length, int off) {
        BowWalk x = oneEachStep();
        int number = x.film(0, 0, steps, length, off);
        return number < 0 ? number : x.fits(0);
    }

    private static void filmSteps() {
        check.promise("behind so many STEPS (1 .. 500)");
        due("1", filmed(1, 21, 0), 1);
        due("99", filmed(99, 119, 0), 1);
        due("100", filmed(100, 120, 0), 1);
        due("101: it was OPEN ahead of that", filmed(101, 120, 0), 1);
        due("500", filmed(500, 120, 0), 1);
        due("500 are not 100 and more", filmed(500, 520, 0), 0);
        for (int steps : new int[] {0, -1, 501, MIN, MAX}) {
            due(steps + "", filmed(steps, 120, 999), -1);
        }
    }

    private static void filmLength() {
        check.promise("both ENDS together were LONG so much (0 .. 29999)");
        due("0", filmed(1, 0, 21), 1);
        due("0", filmed(1, 0, 20), 0);
        due("29999", filmed(1, 29999, 999), 0);
        for (int length : new int[] {-1, 30000, MIN, MAX}) {
            due(length + "", filmed(1, length, 999), -1);
        }
        // as LONG as they can be: 999 twice, and 12 CROSSINGS of 999
        BowWalk x = Check.shop("knot a" + " over under".repeat(6) + ";cord c smooth 0 weight 0 long 999;walk w 0 0;tight 999;"
                + "law l rub 0-9999 pull 9999;");
        due("film", x.film(0, 0, 1, 2 * 999 + 12 * 999, 0), 0);
        due("fits", x.fits(0), 1);
        x = Check.shop("knot a under over;" + CORD + "walk w 0 0;law l rub 0 pull 30;");
        // the outer one 3 over, the inner one 2 under
        due("film", x.film(0, 0, 1, 25, 0), 0);
        due("both together", x.fits(0), 1);
    }

    private static void filmOff() {
        check.promise("off by so much at most (0 .. 999)");
        due("21, off 0", filmed(1, 21, 0), 1);
        due("20, off 0", filmed(1, 20, 0), 0);
        due("22, off 0", filmed(1, 22, 0), 0);
        due("20, off 1", filmed(1, 20, 1), 1);
        due("22, off 1", filmed(1, 22, 1), 1);
        due("19, off 1", filmed(1, 19, 1), 0);
        due("23, off 1", filmed(1, 23, 1), 0);
        due("1020, off 999", filmed(1, 1020, 999), 1);
        due("1021, off 999", filmed(1, 1021, 999), 0);
        for (int off : new int[] {-1, 1000, MIN, MAX}) {
            due("off " + off, filmed(1, 21, off), -1);
        }
    }

    private static void filmRefused() {
        check.promise("24: NONE, doing nothing, if one can't be");
        BowWalk x = oneEachStep();
        for (int no : new int[] {-1, 1, 2, 6, MIN, MAX}) {
            due("KNOT " + no, x.film(no, 0, 1, 99, 0), -1);
            due("WALK " + no, x.film(0, no, 1, 99, 0), -1);
        }
        due("STEPS", x.film(0, 0, 0, 99, 0), -1);
        due("length", x.film(0, 0, 1, 30000, 0), -1);
        due("off", x.film(0, 0, 1, 99, -1), -1);
        due("no FILM", x.about(5), 0);
        due("nothing counts", x.fits(MAX), 1);
        due("the first", x.film(0, 0, 1, 21, 0), 0);
        due("without KNOTS", Check.shop(CORD + "walk w 0 0;").film(0, 0, 1, 1, 1), -1);
        due("without WALKS", Check.shop(KNOT + CORD).film(0, 0, 1, 1, 1), -1);
        due("CORDS are not asked for", Check.shop(KNOT + "walk w 0 0;").film(0, 0, 1, 1, 1), 0);
    }

    // ---- two times ----

    private static void known(BowWalk x, int[][] rows) {
        for (int[] row : rows) {
            due("fits(" + row[0] + ")", x.fits(row[0]), row[1]);
        }
    }

    private static void toldAtKOrBefore() {
        check.promise("As known at k those count that were TOLD at k or before");
        BowWalk x = oneEachStep();
        x.later(5);
        x.film(0, 0, 1, 99, 0);
        known(x, new int[][] {{4, 1}, {5, 0}, {6, 0}, {0, 1}, {-1, 1}, {MIN, 1}, {MAX, 0}});
    }

    private static void untoldAtKOrBefore() {
        check.promise("not UNTOLD at k or before");
        BowWalk x = oneEachStep();
        x.later(5);
        x.film(0, 0, 1, 99, 0);
        x.later(2);
        x.untell(0);
        known(x, new int[][] {{4, 1}, {5, 0}, {6, 0}, {7, 1}, {8, 1}, {MAX, 1}, {MIN, 1}});
        check.promise("UNTOLD at a later one or the same");
        x = oneEachStep();
        x.later(5);
        x.film(0, 0, 1, 99, 0);
        x.untell(0);
        known(x, new int[][] {{4, 1}, {5, 1}, {6, 1}, {MAX, 1}});
        check.promise("UNTOLD: others still count");
        x = oneEachStep();
        x.film(0, 0, 1, 99, 0);
        x.film(0, 0, 1, 98, 0);
        x.later(1);
        x.untell(1);
        known(x, new int[][] {{0, 0}, {1, 0}});
        x.later(1);
        x.untell(0);
        known(x, new int[][] {{1, 0}, {2, 1}});
        check.promise("the TIME at its most");
        x = oneEachStep();
        for (int i = 0; i < 100; i++) {
            x.later(1000);
        }
        x.film(0, 0, 1, 99, 0);
        known(x, new int[][] {{99999, 1}, {100000, 0}});
        x.untell(0);
        known(x, new int[][] {{99999, 1}, {100000, 1}});
    }

    private static void untell() {
        check.promise("25: It is UNTOLD: true; false if it is so already, or there is none such");
        BowWalk x = oneEachStep();
        check.due("none", x.untell(0), false);
        x.film(0, 0, 1, 99, 0);
        for (int film : new int[] {-1, 1, 39, 40, MIN, MAX}) {
            check.due("untell(" + film + ")", x.untell(film), false);
        }
        due("it counts", x.fits(0), 0);
        x.later(1);
        check.due("untell(0)", x.untell(0), true);
        x.later(1);
        check.due("untell(0)", x.untell(0), false);
        known(x, new int[][] {{0, 0}, {1, 1}, {2, 1}});
        x.film(0, 0, 1, 99, 0);
        check.due("another one", x.untell(1), true);
        // a FILM of a new SHOP with the number of one that was UNTOLD is TOLD
        Check.tape(x, KNOT + CORD + "walk w 0 0;law l rub 0 pull 10;");
        x.shop();
        x.film(0, 0, 1, 99, 0);
        due("it counts", x.fits(2), 0);
        check.due("untell(0)", x.untell(0), true);
    }

    private static void later() {
        check.promise("26: So much later (0 .. 1000): the TIME; NONE, doing nothing, for another number, or if above 100,000");
        BowWalk x = new BowWalk();
        due("later(0)", x.later(0), 0);
        due("later(1)", x.later(1), 1);
        due("later(999)", x.later(999), 1000);
        for (int by : new int[] {-1, -1000, 1001, MIN, MAX}) {
            due("later(" + by + ")", x.later(by), -1);
            due("about(6)", x.about(6), 1000);
        }
        for (int i = 2; i <= 99; i++) {
            due("later(1000)", x.later(1000), 1000 * i);
        }
        due("to 99,500", x.later(500), 99500);
        due("to 100,500", x.later(1000), -1);
        due("to 100,001", x.later(501), -1);
        due("about(6)", x.about(6), 99500);
        due("to 100,000", x.later(500), 100000);
        due("to 100,001", x.later(1), -1);
        due("later(0)", x.later(0), 100000);
        due("about(6)", x.about(6), 100000);
    }

    // ---- FIT ----

    private static void fitsWithoutLaws() {
        check.promise("pairs 4 * LAW + CORD (LAW 0 without LAWS)");
        String cords = CORD + "cord d smooth 0 weight 99 long 20;cord e smooth 0 weight 0 long 30;cord f smooth 99 weight 99 long 40;";
        BowWalk x = Check.shop(KNOT + cords + "walk w 0 0;tight 100;");
        due("4 CORDS", x.fits(0), 15);
        // without a slip 20, 40, 60, 80; the last one slips by 10
        x.film(0, 0, 1, 80, 9);
        due("none", x.fits(0), 0);
        x.untell(0);
        x.film(0, 0, 1, 90, 0);
        due("the last", x.fits(0), 8);
    }

    private static void fitsWithoutCords() {
        check.promise("27: FIT: pairs as bits (0 without CORDS)");
        BowWalk x = Check.shop(KNOT + "walk w 0 0;law l rub 0 pull 0;law m rub 0 pull 0;");
        due("without CORDS", x.fits(0), 0);
        due("film", x.film(0, 0, 1, 20, 999), 0);
        due("without CORDS", x.fits(0), 0);
        due("a new object", new BowWalk().fits(0), 0);
        due("without KNOTS and WALKS", Check.shop(CORD).fits(0), 1);
    }

    private static void fitsAllPairs() {
        check.promise("FIT: all pairs there are");
        String[] cords = {CORD, "cord d smooth 0 weight 0 long 20;", "cord e smooth 0 weight 0 long 30;", "cord f smooth 0 weight 0 long 40;"};
        String[] laws = {"law l rub 0 pull 0;", "law m rub 0 pull 10;", "law n rub 0 pull 20;"};
        StringBuilder text = new StringBuilder(KNOT + "walk w 0 0;");
        for (int c = 1; c <= 4; c++) {
            text.append(cords[c - 1]);
            StringBuilder more = new StringBuilder();
            for (int l = 0; l <= 3; l++) {
                more.append(l == 0 ? "" : laws[l - 1]);
                int row = (1 << c) - 1;
                int want = row | (l > 1 ? row << 4 : 0) | (l > 2 ? row << 8 : 0);
                due(c + " CORDS, " + l + " LAWS", Check.shop(text.toString() + more).fits(0), want);
            }
        }
        BowWalk x = Check.shop(text + laws[0] + laws[1] + laws[2]);
        // pair 4 * LAW + CORD is 20 * (CORD + 1) + LAW LONG behind one STEP
        for (int pair = 0; pair < 12; pair++) {
            due("film", x.film(0, 0, 1, 20 * (pair % 4 + 1) + pair / 4, 0), pair);
            due("pair " + pair, x.fits(0), 1 << pair);
            x.untell(pair);
        }
    }

    private static void fitsAllFilms() {
        check.promise("FIT: by which all FILMS that count are let");
        BowWalk x = Check.shop(KNOT + CORD + "cord d smooth 0 weight 0 long 20;walk w 0 0;law l rub 0 pull 10;law m rub 0 pull 20;");
        due("none told: all", x.fits(0), 51);
        // behind one STEP 21, 41, 22, 42
        x.film(0, 0, 1, 31, 10);
        due("21 41 22", x.fits(0), 1 + 2 + 16);
        x.film(0, 0, 1, 32, 10);
        due("41 22, as 42 was none of them", x.fits(0), 2 + 16);
        x.film(0, 0, 1, 0, 22);
        due("of them 22", x.fits(0), 16);
        x.film(0, 0, 1, 0, 0);
        due("none of them", x.fits(0), 0);
    }

    private static void filmOfItsKnotAndWalk() {
        check.promise("FILMS of a KNOT on a WALK");
        BowWalk x = Check.shop(KNOT + "knot b over over;knot c over over over;" + CORD
                + "walk u 10 0;walk v 20 0;walk w 30 0;law l rub 0 pull strike;");
        // one CROSSING gives 1, 2, 3; two give 2, 3, 5; three give 3, 4, 6
        int[][] slips = {{1, 2, 3}, {2, 3, 5}, {3, 4, 6}};
        for (int knot = 0; knot < 3; knot++) {
            for (int walk = 0; walk < 3; walk++) {
                int number = x.film(knot, walk, 1, 20 + slips[knot][walk], 0);
                due("number", number, 3 * knot + walk);
                due("KNOT " + knot + ", WALK " + walk, x.fits(0), 1);
                due("began", x.began(number, 0), 1);
            }
        }
        due("parts: the first WALK", x.parts(2, 1, 0, 0), 0);
        x = Check.shop(KNOT + "knot b over under;" + CORD + "walk u 0 0;walk v 0 0 0 0 10 0;law l rub (place = 0) * 99 pull strike;");
        due("film", x.film(0, 1, 9, 20, 0), 0);
        due("film", x.film(1, 1, 9, 23, 0), 1);
        due("KNOT 0 never slips", x.began(0, 0), -1);
        due("KNOT 1 on WALK 1", x.began(1, 0), 3);
        due("both", x.fits(0), 1);
    }

    private static void fitsWithoutLuck() {
        check.promise("FILMS without luck, from a BOW newly tied");
        BowWalk x = Check.shop(KNOT + CORD + "walk w 0 50;luck 49;law l rub 0 pull swing;");
        x.tie(0, 0);
        x.walk(0, 3);
        int w = x.about(8);
        int slipped = x.bow(4);
        x.film(0, 0, 2, 30, 0);
        due("5 and 5", x.fits(0), 1);
        due("parts", x.parts(0, 2, 1, 0), 1);
        due("began", x.began(0, 0), 1);
        due("w", x.about(8), w);
        due("the BOW", x.bow(4), slipped);
    }

    // ---- PARTS ----

    private static void partsSteps() {
        check.promise("PARTS of a KNOT and n STEPS (1 .. 500)");
        // by LAW 0 it slips in each STEP, by LAW 1 only in the eighth of them: alike behind 500
        BowWalk x = Check.shop(KNOT + CORD + "walk w 0 0 0 0 0 0 0 0 0 0 0 0 0 0 9 0;tight 9;law l rub 0 pull 10;law m rub 0 pull strike * 99;");
        due("1", x.parts(0, 1, 1, 0), 2);
        due("7", x.parts(0, 7, 1, 0), 2);
        due("8", x.parts(0, 8, 1, 0), 2);
        due("9", x.parts(0, 9, 1, 0), 1);
        due("500", x.parts(0, 500, 1, 0), 1);
        for (int steps : new int[] {0, -1, 501, MIN, MAX}) {
            due(steps + "", x.parts(0, steps, 0, 0), -1);
            due(steps + "", x.parts(0, steps, 1, 0), -1);
        }
    }

    private static void partsOfLikeOnes() {
        check.promise("PARTS: the WALK behind which most unlike LENGTHS come of all pairs that FIT; of like ones the first");
        String cords = CORD + "cord d smooth 1 weight 0 long 10;cord e smooth 2 weight 0 long 10;cord f smooth 3 weight 0 long 10;";
        String laws = "law l rub 0 pull smooth * strike * 10;law m rub 0 pull smooth * strike * 10;law n rub 0 pull smooth * 10 + strike * 1000;";
        BowWalk x = Check.shop(KNOT + cords + laws + "walk a 0 0;walk b 1 0;walk c 1 0;walk d 0 0;tight 999;");
        // of WALK 0: 0, and by the last LAW 0 1 2 3: 4; of WALK 1: 0 1 2 3 and 100 .. 103: 8
        due("the first of like ones", x.parts(0, 1, 0, 0), 1);
        due("8 of 12 are unlike", x.parts(0, 1, 1, 0), 8);
        x = Check.shop(KNOT + cords + laws + "walk a 1 0;walk b 0 0;walk c 1 0;walk d 1 0;tight 999;");
        due("the first WALK", x.parts(0, 1, 0, 0), 0);
        x = Check.shop(KNOT + cords + laws + "walk a 0 0;walk b 0 0;walk c 0 0;walk d 1 0;tight 999;");
        due("the last WALK", x.parts(0, 1, 0, 0), 3);
        x = Check.shop(KNOT + CORD + "walk a 0 0;walk b 1 0;law l rub 0 pull 0;");
        due("one pair: the first WALK", x.parts(0, 1, 0, 0), 0);
        due("one pair: 1", x.parts(0, 1, 1, 0), 1);
        check.promise("PARTS: 12 unlike ones");
        x = Check.shop(KNOT + cords + "walk a 0 0;walk b 1 0;tight 999;law l rub 0 pull smooth * 10;law m rub 0 pull 40 + smooth * 10;"
                + "law n rub 0 pull 80 + smooth * 10;");
        due("12", x.parts(0, 1, 1, 0), 12);
        check.promise("PARTS: as known at k");
        x.later(4);
        x.film(0, 0, 1, 20, 3);
        due("at 3", x.parts(0, 1, 1, 3), 12);
        due("at 4", x.parts(0, 1, 1, 4), 4);
        x.later(1);
        x.untell(0);
        due("at 4", x.parts(0, 1, 1, 4), 4);
        due("at 5", x.parts(0, 1, 1, 5), 12);
    }

    private static void partsRefused() {
        check.promise("28: NONE if nothing FITS, without WALKS, or if one can't be");
        BowWalk x = oneEachStep();
        due("parts", x.parts(0, 1, 0, 0), 0);
        x.film(0, 0, 1, 0, 0);
        due("nothing FITS", x.parts(0, 1, 0, 0), -1);
        due("nothing FITS", x.parts(0, 1, 1, 0), -1);
        due("ahead of that", x.parts(0, 1, 1, -1), 1);
        due("without WALKS", Check.shop(KNOT + CORD).parts(0, 1, 0, 0), -1);
        due("without WALKS", Check.shop(KNOT + CORD).parts(0, 1, 1, 0), -1);
        due("without CORDS nothing FITS", Check.shop(KNOT + "walk w 0 0;").parts(0, 1, 1, 0), -1);
        for (int no : new int[] {-1, 1, 2, 6, MIN, MAX}) {
            due("KNOT " + no, x.parts(no, 1, 0, -1), -1);
        }
        for (int no : new int[] {-1, 2, MIN, MAX}) {
            due("what " + no, x.parts(0, 1, no, -1), -1);
        }
    }

    // ---- BEGAN ----

    private static void beganInItsSteps() {
        check.promise("BEGAN: the first STEP in which anything SLIPS, by it (none in its STEPS: none)");
        BowWalk x = Check.shop(KNOT + CORD + "walk w 0 0 0 0 0 0 0 0 0 0 0 0 0 0 9 0;walk v 9 0;law l rub 0 pull strike;law m rub 9 pull strike;");
        due("film", x.film(0, 0, 7, 0, 0), 0);
        due("film", x.film(0, 0, 8, 0, 0), 1);
        due("film", x.film(0, 1, 1, 0, 0), 2);
        due("film", x.film(0, 0, 500, 0, 0), 3);
        due("none in 7", x.began(0, 0), -1);
        due("the 8th of 8", x.began(1, 0), 8);
        due("the first", x.began(2, 0), 1);
        due("the 8th of 500", x.began(3, 0), 8);
        due("by LAW 1 none", x.began(3, 4), -1);
        // what slips further in only is not asked for: nothing slips there without the outermost one
        x = Check.shop("knot a over over;" + CORD + "walk w 1 0;law l rub 0-(place=0)*99 pull 0;");
        x.film(0, 0, 500, 0, 0);
        due("none", x.began(0, 0), -1);
    }

    private static void beganRefused() {
        check.promise("29: NONE if there is none, or one can't be (no such FILM, pair)");
        BowWalk x = Check.shop(KNOT + CORD + "cord d smooth 0 weight 0 long 10;walk w 0 0;law l rub 0 pull 10;law m rub 0 pull 10;");
        due("no FILM", x.began(0, 0), -1);
        x.film(0, 0, 1, 0, 0);
        for (int pair : new int[] {0, 1, 4, 5}) {
            due("pair " + pair, x.began(0, pair), 1);
        }
        for (int pair : new int[] {-1, -4, 2, 3, 6, 7, 8, 9, 11, 12, 16, MIN, MAX}) {
            due("pair " + pair, x.began(0, pair), -1);
        }
        for (int film : new int[] {-1, 1, 39, 40, MIN, MAX}) {
            due("FILM " + film, x.began(film, 0), -1);
        }
        x = Check.shop(KNOT + CORD + "walk w 0 99;tight 5;");
        x.film(0, 0, 1, 0, 0);
        due("pair 0 without LAWS", x.began(0, 0), 1);
        due("pair 4 without LAWS", x.began(0, 4), -1);
        x = Check.shop(KNOT + "walk w 0 99;");
        x.film(0, 0, 1, 0, 0);
        due("pair 0 without CORDS", x.began(0, 0), -1);
    }

    private static void about() {
        check.promise("33: NONE for another what (w may be that, too)");
        BowWalk x = oneEachStep();
        for (int what : new int[] {-1, 10, 11, MIN, MAX}) {
            due("about(" + what + ")", x.about(what), -1);
        }
        x.seed(-1);
        due("w", x.about(8), -1);
        x.film(0, 0, 1, 1, 1);
        x.film(0, 0, 1, 1, 1);
        x.untell(0);
        due("FILMS, UNTOLD ones too", x.about(5), 2);
        due("units of LAWS that are told", x.about(9), 2);
        due("bytes on the TAPE", x.about(7), 0);
    }
}
