/** Promises 1 and 6 to 33, each with answers reckoned by hand: ordinary ones, the edges, wrong inputs. */
public final class PromiseTest {
    private static final Check check = new Check();
    private static final int MIN = Integer.MIN_VALUE;
    private static final int MAX = Integer.MAX_VALUE;
    private static final String CORD = "cord c smooth 0 weight 0 long 10;";

    public static void main(String[] args) {
        newObject();
        knot();
        tie();
        walk();
        walkLuck();
        walkMost();
        pull();
        pullInward();
        asks();
        bow();
        holds();
        begins();
        alone();
        undone();
        metMeets();
        odds();
        worseWhich();
        best();
        both();
        ends();
        change();
        films();
        filmsAsKnown();
        filmsMost();
        parts();
        began();
        later();
        seedImageBack();
        about();
        check.close("PromiseTest");
    }

    private static void due(String call, long got, long want) {
        check.due(call, got, want);
    }

    private static void newObject() {
        check.promise("1");
        BowWalk x = new BowWalk();
        for (int what = 0; what < 10; what++) {
            due("about(" + what + ")", x.about(what), what == 8 ? 1 : 0);
        }
        for (int what = -1; what < 25; what++) {
            due("bow(" + what + ")", x.bow(what), -1);
        }
        due("knot(0, 0)", x.knot(0, 0), -1);
        due("tie(0, 0)", x.tie(0, 0), -1);
        due("walk(0, 0)", x.walk(0, 0), -1);
        due("pull(0)", x.pull(0), -1);
        due("holds", x.holds(0, 0, 0, 0), -1);
        due("begins", x.begins(0, 0, 0), -1);
        due("alone", x.alone(0, 0, 0, 0), -1);
        due("undone", x.undone(0, 0), -1);
        due("met", x.met(0, 0, 0, 0), -1);
        due("meets", x.meets(0, 0, 0), -1);
        due("odds", x.odds(0, 1, 1), -1);
        due("worse", x.worse(0, 0, 0, 0), -10000);
        due("which", x.which(0, 0, 0), -1);
        due("best", x.best(1, 0, 0, 999, 0), -1);
        due("both", x.both(0, 0), -1);
        due("ends", x.ends(0, 0, 0, 1), -1);
        due("change", x.change(0, 0, 0, 1, 0), -1);
        due("film", x.film(0, 0, 1, 0, 0), -1);
        check.due("untell", x.untell(0), false);
        due("fits", x.fits(0), 0);
        due("parts", x.parts(0, 1, 0, 0), -1);
        due("began", x.began(0, 0), -1);
        due("image", x.image(0), -1);
        due("back", x.back(0), -1);
        due("shop", x.shop(), 0);
    }

    private static void knot() {
        check.promise("6");
        BowWalk x = Check.shop("knot a over over under under under over;knot b under;"
                + "knot c under under under under under under under under under under under under;");
        int[][] want = {{6, 28, 3}, {1, 1, 0}, {12, 4095, 11}};
        for (int knot = 0; knot < 3; knot++) {
            for (int what = 0; what < 3; what++) {
                due("knot(" + knot + ", " + what + ")", x.knot(knot, what), want[knot][what]);
            }
            due("what 3", x.knot(knot, 3), -1);
            due("what -1", x.knot(knot, -1), -1);
        }
        due("knot(3, 0)", x.knot(3, 0), -1);
        due("knot(-1, 0)", x.knot(-1, 0), -1);
        due("knot(MIN, 0)", x.knot(MIN, 0), -1);
        due("knot(MAX, 0)", x.knot(MAX, 0), -1);
    }

    private static void tie() {
        check.promise("7");
        BowWalk x = Check.shop("knot a over under under;knot b over;" + CORD
                + "cord d smooth 0 weight 0 long 999;law l rub 0 pull 10;walk w 0 0;");
        due("tie(2, 0)", x.tie(2, 0), -1);
        due("tie(0, 2)", x.tie(0, 2), -1);
        due("tie(-1, 0)", x.tie(-1, 0), -1);
        due("tie(0, -1)", x.tie(0, -1), -1);
        due("bow(0)", x.bow(0), -1);
        due("tie(0, 1)", x.tie(0, 1), 3);
        due("bow(1)", x.bow(1), 999);
        due("bow(2)", x.bow(2), 999);
        due("bow(12)", x.bow(12), 100);
        due("walk", x.walk(0, 1), 3);
        due("bow(4)", x.bow(4), 3);
        due("tie(9, 9), doing nothing", x.tie(9, 9), -1);
        due("bow(4)", x.bow(4), 3);
        due("tie(1, 0)", x.tie(1, 0), 1);
        int[] now = {1, 10, 10, 0, 0};
        for (int what = 0; what < 5; what++) {
            due("bow(" + what + ")", x.bow(what), now[what]);
        }
        due("bow(10)", x.bow(10), 100);
        due("bow(11)", x.bow(11), -1);
    }

    private static void walk() {
        check.promise("8");
        BowWalk x = Check.shop("knot a over;" + CORD + "walk v 10 0 20 0 30 0;walk w 50 0 10 0;tight 99;law l rub 0 pull strike;");
        due("without a BOW", x.walk(0, 1), -1);
        x.tie(0, 0);
        due("walk(0, 0)", x.walk(0, 0), 0);
        due("walk(0, 2)", x.walk(0, 2), 3);
        due("walk(0, 0)", x.walk(0, 0), 0);
        due("goes on, round", x.walk(0, 2), 4);
        due("another one: its first", x.walk(1, 1), 5);
        due("goes on", x.walk(1, 1), 1);
        due("round", x.walk(1, 1), 5);
        due("the first again, another was gone", x.walk(0, 1), 1);
        due("a pull is no WALK", x.pull(10), 1);
        due("goes on behind a pull", x.walk(0, 1), 2);
        due("bow(3)", x.bow(3), 9);
        due("bow(4)", x.bow(4), 22);
        due("walk(2, 1)", x.walk(2, 1), -1);
        due("walk(-1, 1)", x.walk(-1, 1), -1);
        due("walk(0, -1)", x.walk(0, -1), -1);
        due("walk(0, 501)", x.walk(0, 501), -1);
        due("walk(0, MAX)", x.walk(0, MAX), -1);
        due("walk(0, MIN)", x.walk(0, MIN), -1);
        due("nothing was done", x.walk(0, 1), 3);
        due("to its end", x.walk(0, 500), 99 - 25);
        due("OPEN", x.bow(0), 0);
        // 25 in 10 STEPS; then 1 2 3 round: 74 = 12 * 6 + 1 + 1 (of 2)
        due("bow(3)", x.bow(3), 10 + 12 * 3 + 2);
        due("OPEN: nothing", x.walk(0, 500), 0);
        due("bow(3)", x.bow(3), 48);
        x.tie(0, 0);
        due("tied anew: the first", x.walk(0, 1), 1);
    }

    private static void walkLuck() {
        check.promise("8, luck");
        String shop = "knot a over;" + CORD + "walk v 0 60;walk w 0 0;law l rub 0 pull swing;";
        BowWalk x = Check.shop(shop + "luck 49;");
        x.tie(0, 0);
        // w 1103527590, above 16 bits 16838, modulo 99 it is 8: swing 60 + 8 - 49 = 19
        due("walk(0, 1)", x.walk(0, 1), 2);
        due("w", x.about(8), 1103527590);
        due("seed", x.seed(1), 1103527590);
        due("swing 0 at least", x.walk(1, 1), 0);
        due("w is drawn all the same", x.about(8), 1103527590);
        due("asked without luck", x.holds(0, 0, 0, 0), 17);
        due("w stays", x.about(8), 1103527590);
        x = Check.shop(shop + "luck 0;");
        x.tie(0, 0);
        due("walk(0, 2)", x.walk(0, 2), 12);
        due("w is not drawn", x.about(8), 1);
        x = Check.shop(shop + "luck 1;tight 6;");
        x.tie(0, 0);
        x.seed(-1);
        // w -1103502900, above 16 bits 48697, modulo 3 it is 1: swing 60
        due("walk(0, 3)", x.walk(0, 3), 6);
        due("one draw: it was OPEN behind the first", x.about(8), -1 * 1103515245 + 12345);
        due("pull", x.pull(5), -1);
    }

    private static void walkMost() {
        check.promise("8, 100,000");
        BowWalk x = Check.shop("knot a over;" + CORD + "walk v 0 0;law l rub 1 pull 0;");
        x.tie(0, 0);
        for (int i = 0; i < 199; i++) {
            due("walk(0, 500)", x.walk(0, 500), 0);
        }
        due("walk(0, 499)", x.walk(0, 499), 0);
        due("walk(0, 2)", x.walk(0, 2), -1);
        due("bow(3)", x.bow(3), 99999);
        due("walk(0, 1)", x.walk(0, 1), 0);
        due("bow(3)", x.bow(3), 100000);
        due("walk(0, 1)", x.walk(0, 1), -1);
        due("walk(0, 0)", x.walk(0, 0), 0);
        x.tie(0, 0);
        due("walk(0, 500)", x.walk(0, 500), 0);
    }

    private static void pull() {
        check.promise("9");
        BowWalk x = Check.shop("knot a over;" + CORD + "walk v 50 50;law l rub strike + swing + 10 pull 0;tight 120;");
        due("without a BOW", x.pull(50), -1);
        x.tie(0, 0);
        due("walk", x.walk(0, 1), 0);
        due("pull(10)", x.pull(10), 0);
        due("pull(11)", x.pull(11), 1);
        due("pull(20)", x.pull(20), 1);
        due("pull(21)", x.pull(21), 2);
        due("pull(-1)", x.pull(-1), -1);
        due("pull(1000)", x.pull(1000), -1);
        due("bow(3)", x.bow(3), 1);
        due("bow(4)", x.bow(4), 4);
        due("bow(1)", x.bow(1), 14);
        due("bow(2)", x.bow(2), 10);
        due("pull(999)", x.pull(999), 99);
        due("no more than it is TIGHT", x.pull(999), 17);
        due("OPEN", x.bow(0), 0);
        due("pull(0)", x.pull(0), -1);
        due("bow(4)", x.bow(4), 120);
        x = Check.shop("knot a over;" + CORD + "tight 5;law l rub 0 - 11 pull 0;");
        x.tie(0, 0);
        due("pull(0)", x.pull(0), 2);
        BowWalk y = Check.shop("knot a over;" + CORD + "tight 5;");
        y.tie(0, 0);
        due("untold: rub is tight - strike - smooth", y.pull(5), 0);
        due("pull(6)", y.pull(6), 1);
        due("pull(5)", y.pull(5), 1);
    }

    private static void pullInward() {
        check.promise("9, inward");
        BowWalk x = Check.shop("knot a over over over;" + CORD + "law l rub 0 - (place = 1) * 1000 pull 0;tight 30;");
        x.tie(0, 0);
        due("10, all 30, 12", x.pull(100), 52);
        due("bow(12)", x.bow(12), 20);
        due("bow(11)", x.bow(11), 0);
        due("bow(10)", x.bow(10), 18);
        due("a CROSSING with no TIGHT is not gone within", x.bow(0), 3);
        due("behind what can't slip nothing slips", x.pull(100), 10);
        due("bow(10)", x.bow(10), 18);
        due("pull(100)", x.pull(100), 10);
        due("both are gone, one by one", x.bow(0), 1);
        due("bow(1)", x.bow(1), 10 + 72);
        due("pull(100)", x.pull(100), 10);
        due("pull(100)", x.pull(100), 8);
        due("bow(0)", x.bow(0), 0);
        x = Check.shop("knot a over under;" + CORD + "law l rub place * 100 - 50 pull 0;");
        x.tie(0, 0);
        due("not even what would slip by itself", x.pull(50), 0);
        // outer by 1; inner 4 + 50 = 54: 6
        due("pull(51)", x.pull(51), 7);
        due("bow(1)", x.bow(1), 16);
        due("bow(2)", x.bow(2), 11);
    }

    /** What slips at the outermost CROSSING in one STEP is e: it pulls ten times as much, and nothing rubs. */
    private static void asked(String e, int want) {
        BowWalk x = Check.shop("knot a over over under;cord c smooth 3 weight 5 long 70;walk w 7 11;tight 900;law l rub 0 pull ("
                + e + ") * 10;");
        x.tie(0, 0);
        x.walk(0, 1);
        check.due("pull e " + e, 900 - x.bow(12), want);
    }

    private static void asks() {
        check.promise("8, e");
        asked("tight - 800", 100);
        asked("place", 2);
        asked("smooth", 3);
        asked("weight", 5);
        asked("long", 70);
        asked("strike", 7);
        asked("swing", 11);
        asked("like", 0);
        asked("2 + 3 * 4", 14);
        asked("(2 + 3) * 4", 20);
        asked("20 - 3 - 4", 13);
        asked("100 / 7 / 2", 7);
        asked("100 / 7 * 2", 28);
        asked("9 / 0 + 4", 4);
        asked("(0 - 9) / 2 + 10", 6);
        asked("(0 - 1) * (0 - 1)", 1);
        asked("3 < 4", 1);
        asked("4 < 4", 0);
        asked("5 > 4", 1);
        asked("4 > 4", 0);
        asked("4 = 4", 1);
        asked("4 = 5", 0);
        asked("1 + 2 = 3", 1);
        asked("not 5", 0);
        asked("not 0", 1);
        asked("not 3 < 2", 1);
        asked("not not 5", 1);
        asked("5 and 7", 1);
        asked("5 and 0", 0);
        asked("5 or 0", 1);
        asked("0 or 0", 0);
        asked("1 or 0 and 0", 1);
        asked("(1 or 0) and 0", 0);
        asked("0 and 0 or 1", 1);
        asked("not 0 and 0", 0);
        asked("5 or 7", 1);
        asked("256 * 256 * 256 * 256 + 6", 6);
        asked("100 - 9999 * 9999 * 9999 / 9999 / 999", 202);

        // as a CROSSING slips, the ones inside it see the longer END
        BowWalk x = Check.shop("knot a over over;" + CORD + "law l rub 0 - (place = 0) * long pull 100;tight 50;walk w 0 0;");
        x.tie(0, 0);
        // 10, then 40 + 20 = 60: 6
        due("walk", x.walk(0, 1), 16);
        x = Check.shop("knot a over under;" + CORD + "law l rub 0 - (place = 0) * long pull 100;tight 50;walk w 0 0;");
        x.tie(0, 0);
        due("another END", x.walk(0, 1), 15);
        // pull e is what an int can be at most, rub e at least: what is above is more than an int
        x = Check.shop("knot a over;" + CORD + "tight 999;walk w 0 0;law l rub 0 - 8192 * 8192 * 32 pull 8192 * 8192 * 32 - 1;");
        x.tie(0, 0);
        due("what is above is no int", x.walk(0, 1), 999);
        // like is asked of the one inside, too
        x = Check.shop("knot a over under under;" + CORD + "law l rub 5 - like * 5 pull 10;walk w 0 0;");
        x.tie(0, 0);
        // 10 above 0: 1; then 4 above 5: not
        due("like", x.walk(0, 1), 1);
        x = Check.shop("knot a over over over;" + CORD + "law l rub 5 - like * 5 pull 10;walk w 0 0;");
        x.tie(0, 0);
        due("like of the innermost is 0", x.walk(0, 1), 2);
        // without LAWS
        x = Check.shop("knot a over;cord c smooth 0 weight 0 long 100;walk w 5 91;tight 95;");
        x.tie(0, 0);
        due("91 above 90", x.walk(0, 1), 1);
        x = Check.shop("knot a over;cord c smooth 0 weight 0 long 101;walk w 0 99;tight 99;");
        x.tie(0, 0);
        due("9999 / 100 is 99, not above 99", x.walk(0, 1), 0);
        x = Check.shop("knot a over under;cord c smooth 10 weight 20 long 55;walk w 30 40;tight 25;");
        x.tie(0, 0);
        due("57: 6, 39: 4", x.walk(0, 1), 10);
        due("bow(11)", x.bow(11), 19);
        due("bow(10)", x.bow(10), 21);
    }

    private static void bow() {
        check.promise("10");
        BowWalk x = Check.shop("knot a over under over under over under over under over under over under;" + CORD
                + "walk v 50 50;law l rub 0 pull 50;tight 5;");
        x.tie(0, 0);
        due("bow(0)", x.bow(0), 12);
        for (int i = 0; i < 12; i++) {
            due("bow(10 + i)", x.bow(10 + i), 5);
        }
        for (int what : new int[] {-1, 5, 6, 9, 22, 23, MIN, MAX}) {
            due("bow(" + what + ")", x.bow(what), -1);
        }
        // 5, then 20: 2, 8: 1, and 4: 1 on and on
        due("walk", x.walk(0, 1), 5 + 2 + 10);
        int[] now = {11, 10 + 2 + 5, 10 + 5 + 5, 1, 17};
        for (int what = 0; what < 5; what++) {
            due("bow(" + what + ")", x.bow(what), now[what]);
        }
        due("it is gone", x.bow(21), 0);
        due("bow(20)", x.bow(20), 3);
        due("bow(19)", x.bow(19), 4);
        due("bow(10)", x.bow(10), 4);
    }

    private static void holds() {
        check.promise("11");
        BowWalk x = Check.shop("knot a over;" + CORD + "cord d smooth 9 weight 0 long 10;walk v 30 0;walk w 0 0 0 0 0 0 0 0 0 0 "
                + "0 0 0 0 1 0;tight 250;law l rub smooth pull strike;law m rub 0 pull 2500;luck 20;");
        due("3 a STEP", x.holds(0, 0, 0, 0), 84);
        due("30 above 9", x.holds(0, 1, 0, 0), 84);
        due("1 in 8 STEPS", x.holds(0, 0, 1, 0), 2000);
        due("never", x.holds(0, 1, 1, 0), 2000);
        due("LAW 1", x.holds(0, 0, 0, 1), 1);
        due("no LAW 2", x.holds(0, 0, 0, 2), -1);
        due("no LAW -1", x.holds(0, 0, 0, -1), -1);
        due("no KNOT 1", x.holds(1, 0, 0, 0), -1);
        due("no CORD 2", x.holds(0, 2, 0, 0), -1);
        due("no WALK 2", x.holds(0, 0, 2, 0), -1);
        due("no KNOT -1", x.holds(-1, 0, 0, 0), -1);
        due("no CORD MIN", x.holds(0, MIN, 0, 0), -1);
        due("no WALK MAX", x.holds(0, 0, MAX, 0), -1);
        due("w stays", x.about(8), 1);
        due("no BOW is tied by it", x.bow(0), -1);
        x.tie(0, 0);
        x.walk(0, 1);
        int slipped = x.bow(4);
        due("a BOW newly tied is asked", x.holds(0, 0, 0, 0), 84);
        due("the BOW stays", x.bow(4), slipped);
        x = Check.shop("knot a over;" + CORD + "walk v 0 0;");
        due("untold LAW 0", x.holds(0, 0, 0, 0), 2000);
        due("no untold LAW 1", x.holds(0, 0, 0, 1), -1);
    }

    private static void begun(int tight, String walk, int want) {
        BowWalk x = Check.shop("knot a over;" + CORD + "walk w " + walk + ";tight " + tight + ";law l rub 0 pull strike;");
        check.due("begins, tight " + tight + " on " + walk, x.begins(0, 0, 0), want);
    }

    private static void begins() {
        check.promise("12");
        begun(3, "30 0 10 0 20 0 20 0", 1);
        begun(4, "30 0 10 0 20 0 20 0", -1);
        begun(6, "30 0 10 0 20 0 20 0", 3);
        begun(7, "30 0 10 0 20 0 20 0", -1);
        begun(8, "30 0 10 0 20 0 20 0", 3);
        begun(9, "30 0 10 0 20 0 20 0", -1);
        begun(10, "30 0 10 0 20 0 20 0", 3);
        begun(11, "30 0 10 0 20 0 20 0", 3);
        begun(8, "20 0", 1);
        begun(2, "0 0 20 0", 2);
        begun(4, "0 0 20 0", 4);
        begun(250, "0 0 0 0 0 0 0 0 0 0 0 0 0 0 1 0", 2000);
        begun(251, "0 0 0 0 0 0 0 0 0 0 0 0 0 0 1 0", -1);
        begun(5, "0 0", -1);
        BowWalk x = Check.shop("knot a over;" + CORD + "walk w 0 0;tight 23;law l rub 0 pull long;");
        due("it feeds itself: 1 2 2 2 2 2 3 3 3 3", x.begins(0, 0, 0), 1);
        due("holds", x.holds(0, 0, 0, 0), 10);
        due("no KNOT", x.begins(1, 0, 0), -1);
        due("no CORD", x.begins(0, 1, 0), -1);
        due("no WALK", x.begins(0, 0, 1), -1);
        due("-1", x.begins(-1, -1, -1), -1);
    }

    private static void alone() {
        check.promise("13");
        BowWalk x = Check.shop("knot a over;" + CORD + "walk w 10 20;tight 10;law l rub 0 pull strike + swing;");
        due("holds", x.holds(0, 0, 0, 0), 4);
        due("strike alone", x.alone(0, 0, 0, 0), 10);
        due("swing alone", x.alone(0, 0, 0, 1), 5);
        due("what 2", x.alone(0, 0, 0, 2), -1);
        due("what -1", x.alone(0, 0, 0, -1), -1);
        due("no KNOT", x.alone(1, 0, 0, 0), -1);
        due("no CORD", x.alone(0, 1, 0, 0), -1);
        due("no WALK", x.alone(0, 0, 1, 0), -1);
        due("the WALK stays", x.holds(0, 0, 0, 0), 4);
    }

    private static int undoneBy(String rub, int tight) {
        return Check.shop("knot a over;" + CORD + "tight " + tight + ";law l rub " + rub + " pull 0;").undone(0, 0);
    }

    private static void undone() {
        check.promise("14");
        due("rub 55, 100 PULLS", undoneBy("55", 100), 60);
        due("rub 55, 101 PULLS", undoneBy("55", 101), 70);
        due("rub 60", undoneBy("60", 10), 70);
        due("rub 0 - 1", undoneBy("0 - 1", 10), 0);
        due("rub 0", undoneBy("0", 10), 10);
        due("rub 989", undoneBy("989", 10), 990);
        due("rub 990", undoneBy("990", 10), -1);
        due("strike, swing are 0", undoneBy("strike + swing + 15", 10), 20);
        due("till nothing slips: rub more as it is less TIGHT", undoneBy("200 - tight * 10", 20), 200);
        // 50 slips by 1, then by 9; 60 slips by 2, then no more; 140 slips by 10
        due("the least that opens", undoneBy("(tight = 10) * 40 - (tight = 9) * 50 + (tight < 9) * 9999", 10), 50);
        due("the least that opens", undoneBy("(tight = 10) * 40 + (tight < 10) * 9999", 10), 140);
        BowWalk x = Check.shop("knot a over over;" + CORD + "tight 20;");
        due("untold LAW", x.undone(0, 0), 30);
        due("no KNOT", x.undone(1, 0), -1);
        due("no CORD", x.undone(0, 1), -1);
        due("KNOT -1", x.undone(-1, 0), -1);
        due("CORD -1", x.undone(0, -1), -1);
    }

    /** KNOTS: g holds 2000, is undone by 60; s holds 8, 10; t holds 5, 10; h as s. */
    private static BowWalk grannies() {
        return Check.shop("knot g over over;knot s over under;knot t over;knot h under over;" + CORD
                + "walk w 0 0;tight 10;law l rub like * 50 pull 20;want a holds 8 pull 10;want b holds 9 pull 59;"
                + "want c holds 2000 pull 60;want d holds 5 pull 10;");
    }

    private static void metMeets() {
        check.promise("15, 16");
        BowWalk x = grannies();
        int[] held = {2000, 8, 5, 8};
        int[] undone = {60, 10, 10, 10};
        int[][] met = {{0, 1, 0, 1}, {0, 0, 0, 0}, {1, 0, 0, 0}, {0, 1, 1, 1}};
        for (int knot = 0; knot < 4; knot++) {
            due("holds", x.holds(knot, 0, 0, 0), held[knot]);
            due("undone", x.undone(knot, 0), undone[knot]);
            for (int want = 0; want < 4; want++) {
                due("met(" + want + ", " + knot + ")", x.met(want, knot, 0, 0), met[want][knot]);
            }
        }
        int[] meets = {10, 0, 1, 14};
        for (int want = 0; want < 4; want++) {
            due("meets(" + want + ")", x.meets(want, 0, 0), meets[want]);
        }
        due("no WANT", x.met(4, 0, 0, 0), -1);
        due("WANT -1", x.met(-1, 0, 0, 0), -1);
        due("no KNOT", x.met(0, 4, 0, 0), -1);
        due("no CORD", x.met(0, 0, 1, 0), -1);
        due("no WALK", x.met(0, 0, 0, 1), -1);
        due("no WANT", x.meets(4, 0, 0), -1);
        due("WANT -1", x.meets(-1, 0, 0), -1);
        due("no CORD", x.meets(0, 1, 0), -1);
        due("no WALK", x.meets(0, 0, 1), -1);
        x = Check.shop("knot a over;" + CORD + "walk w 0 0;law l rub 9999 pull 0;want a holds 1 pull 999;");
        due("nothing undoes it", x.met(0, 0, 0, 0), 0);
        x = Check.shop(CORD + "walk w 0 0;want a holds 1 pull 999;");
        due("no KNOTS", x.meets(0, 0, 0), 0);
    }

    private static void odds() {
        check.promise("17");
        // holds: 1, 1; 2000, 4
        BowWalk x = Check.shop("knot a over;" + CORD + "cord d smooth 50 weight 0 long 10;walk v 40 0;walk w 60 0;tight 4;"
                + "law l rub smooth pull strike;");
        int[][] want = {{1, 1, 1}, {2, 1, 2}, {4, 1, 2}, {5, 1, 4}, {2000, 1, 4}};
        for (int[] row : want) {
            due("odds(0, " + row[0] + ", 0)", x.odds(0, row[0], 0), row[1]);
            due("odds(0, " + row[0] + ", 1)", x.odds(0, row[0], 1), row[2]);
        }
        due("n 0", x.odds(0, 0, 1), -1);
        due("n 2001", x.odds(0, 2001, 1), -1);
        due("n MIN", x.odds(0, MIN, 1), -1);
        due("part 2", x.odds(0, 1, 2), -1);
        due("part -1", x.odds(0, 1, -1), -1);
        due("no KNOT", x.odds(1, 1, 0), -1);
        due("KNOT -1", x.odds(-1, 1, 0), -1);
        x = Check.shop("knot a over;" + CORD + "cord d smooth 0 weight 0 long 10;cord e smooth 90 weight 0 long 10;"
                + "walk v 40 0;tight 4;law l rub smooth pull strike;");
        due("none: 0", x.odds(0, 1999, 0), 1);
        due("of 3", x.odds(0, 1999, 1), 3);
        x = Check.shop("knot a over;" + CORD + "walk v 40 0;walk w 40 0;tight 4;law l rub 0 pull strike;");
        due("none: 0", x.odds(0, 2, 0), 0);
        due("in lowest terms: 1", x.odds(0, 2, 1), 1);
        due("no WALKS", Check.shop("knot a over;" + CORD).odds(0, 1, 0), -1);
        due("no CORDS", Check.shop("knot a over;walk w 1 1;").odds(0, 1, 0), -1);
    }

    private static void worseWhich() {
        check.promise("18, 19");
        BowWalk x = grannies();
        due("worse(0, 0)", x.worse(0, 0, 0, 0), 1992);
        due("worse(0, 1)", x.worse(0, 0, 0, 1), 1992);
        due("which: the first", x.which(0, 0, 0), 0);
        due("below 0", x.worse(1, 0, 0, 1), -1992);
        due("one CROSSING", x.worse(2, 0, 0, 0), 0);
        due("which of one", x.which(2, 0, 0), 0);
        due("the KNOT stays", x.worse(1, 0, 0, 0), -1992);
        due("no CROSSING 2", x.worse(0, 0, 0, 2), -10000);
        due("CROSSING -1", x.worse(0, 0, 0, -1), -10000);
        due("no KNOT", x.worse(4, 0, 0, 0), -10000);
        due("KNOT -1", x.worse(-1, 0, 0, 0), -10000);
        due("no CORD", x.worse(0, 1, 0, 0), -10000);
        due("no WALK", x.worse(0, 0, 1, 0), -10000);
        due("no KNOT", x.which(4, 0, 0), -1);
        due("no CORD", x.which(0, 1, 0), -1);
        due("no WALK", x.which(0, 0, 1), -1);
        // only the outermost of three rubs if it is like: only turns of 1 and 2 let it slip
        x = Check.shop("knot a over over over;" + CORD + "walk w 0 0;tight 10;law l rub (place = 2) * like * 50 pull 20;");
        due("worse(0)", x.worse(0, 0, 0, 0), 0);
        check.isTrue("worse(1)", x.worse(0, 0, 0, 1) > 1900);
        due("worse(2) is as worse(1)", x.worse(0, 0, 0, 2), x.worse(0, 0, 0, 1));
        due("which", x.which(0, 0, 0), 1);
    }

    private static void best() {
        check.promise("20");
        BowWalk x = grannies();
        int[][] want = {{999, 0, 2000, 60}, {60, 0, 2000, 60}, {59, 2, 8, 10}, {10, 2, 8, 10}, {9, -1, -1, -1}, {0, -1, -1, -1}};
        for (int[] row : want) {
            for (int what = 0; what < 3; what++) {
                due("best(2, " + row[0] + ", " + what + ")", x.best(2, 0, 0, row[0], what), row[1 + what]);
            }
        }
        due("p 0", Check.shop(CORD + "walk w 0 0;tight 7;law l rub 0 - 1 pull 0;").best(1, 0, 0, 0, 1), 7);
        due("best of 1", x.best(1, 0, 0, 10, 0), 0);
        due("best of 1 holds", x.best(1, 0, 0, 10, 1), 5);
        due("best of 6, the innermost over", x.best(6, 0, 0, 10, 0), 42);
        due("of like ones the least", Check.shop(CORD + "walk w 0 0;law l rub 0 pull 10;").best(6, 0, 0, 999, 0), 0);
        for (int bad : new int[] {-1, 0, 7, MIN, MAX}) {
            due("n " + bad, x.best(bad, 0, 0, 999, 0), -1);
        }
        due("no CORD", x.best(2, 1, 0, 999, 0), -1);
        due("no WALK", x.best(2, 0, 1, 999, 0), -1);
        due("p -1", x.best(2, 0, 0, -1, 0), -1);
        due("p 1000", x.best(2, 0, 0, 1000, 0), -1);
        due("what 3", x.best(2, 0, 0, 999, 3), -1);
        due("what -1", x.best(2, 0, 0, 999, -1), -1);
    }

    private static void both() {
        check.promise("21");
        BowWalk x = grannies();
        due("g, s, h, not t", x.both(0, 0), 11);
        due("no CORD", x.both(1, 0), -1);
        due("no WALK", x.both(0, 1), -1);
        due("CORD -1", x.both(-1, 0), -1);
        due("WALK -1", x.both(0, -1), -1);
        due("no KNOTS", Check.shop(CORD + "walk w 0 0;").both(0, 0), 0);
        // behind one as long, undone by less; behind one undone by the same, longer
        x = Check.shop("knot a under under;knot b under;knot c over;knot d under over over;" + CORD
                + "walk w 0 0;tight 10;law l rub like * 50 + (place = 0) * (long - 5) pull 0;");
        due("undone", x.undone(0, 0), 60);
        due("undone", x.undone(1, 0), 20);
        due("all hold 2000: those undone by the least", x.both(0, 0), 6);
        // g and f hold 2000, nothing undoes them; t is OPEN in 1 STEP, nothing undoes it
        x = Check.shop("knot g over over;knot t over;knot f over over;" + CORD
                + "walk w 1 0;tight 10;law l rub like * 5000 + (strike = 0) * 990 pull 99;");
        due("undone", x.undone(1, 0), -1);
        due("nothing undoes: 1000, no better than another", x.both(0, 0), 5);
    }

    private static void ends() {
        check.promise("22");
        BowWalk x = Check.shop("knot a over;" + CORD + "walk w 0 0;tight 10;law l rub 0 pull (long > 500) * 100;");
        due("n 2", x.ends(0, 0, 0, 2), 510);
        due("n 2000", x.ends(0, 0, 0, 2000), 510);
        due("n 1: none", x.ends(0, 0, 0, 1), -1);
        due("n 0", x.ends(0, 0, 0, 0), -1);
        due("n 2001", x.ends(0, 0, 0, 2001), -1);
        due("no KNOT", x.ends(1, 0, 0, 2), -1);
        due("no CORD", x.ends(0, 1, 0, 2), -1);
        due("no WALK", x.ends(0, 0, 1, 2), -1);
        due("the CORD stays", x.holds(0, 0, 0, 0), 2000);
        x = Check.shop("knot a over;cord c smooth 0 weight 0 long 999;walk w 0 0;tight 10;law l rub 0 pull (long < 20) * 100;");
        due("the least is 10", x.ends(0, 0, 0, 2), 10);
        x = Check.shop("knot a over;cord c smooth 0 weight 0 long 999;walk w 0 0;tight 10;law l rub 0 pull (long > 990) * 100;");
        due("the most is 990", x.ends(0, 0, 0, 2), -1);
        x = Check.shop("knot a over;cord c smooth 0 weight 0 long 999;walk w 0 0;tight 10;law l rub 0 pull (long > 989) * 100;");
        due("the most is 990", x.ends(0, 0, 0, 2), 990);
    }

    private static void change() {
        check.promise("23");
        BowWalk x = Check.shop("knot a over;" + CORD + "walk w 0 50 0 99;walk v 99 0;tight 10;law l rub 0 pull (swing > 30) * 100;");
        due("n 1", x.change(0, 0, 0, 1, 0), 0);
        due("n 2: the first STEP by 20", x.change(0, 0, 0, 2, 0), 20);
        due("n 3: both by 69", x.change(0, 0, 0, 3, 0), 69);
        due("n 2000", x.change(0, 0, 0, 2000, 0), 69);
        due("strikes: none", x.change(0, 0, 0, 2, 1), -1);
        due("holds already", x.change(0, 0, 1, 2000, 1), 0);
        due("n 0", x.change(0, 0, 0, 0, 0), -1);
        due("n 2001", x.change(0, 0, 0, 2001, 0), -1);
        due("what 2", x.change(0, 0, 0, 1, 2), -1);
        due("what -1", x.change(0, 0, 0, 1, -1), -1);
        due("no KNOT", x.change(1, 0, 0, 1, 0), -1);
        due("no CORD", x.change(0, 1, 0, 1, 0), -1);
        due("no WALK", x.change(0, 0, 2, 1, 0), -1);
        due("the WALK stays", x.holds(0, 0, 0, 0), 1);
        x = Check.shop("knot a over;" + CORD + "walk w 99 99;tight 10;law l rub 0 pull (strike > 0) * 100;");
        due("99", x.change(0, 0, 0, 2, 1), 99);
        due("swings: none", x.change(0, 0, 0, 2, 0), -1);
    }

    /** Pairs 0, 1, 4, 5; behind n STEPS of WALK 0 they are 20 + n, 40 + n, 20 + 2n, 40 + 2n long; of 1 the first two twice. */
    private static BowWalk filmed() {
        return Check.shop("knot a over;knot b under over;" + CORD + "cord d smooth 0 weight 0 long 20;walk v 20 0;walk w 10 0;"
                + "law a rub 0 pull 10;law b rub 0 pull strike;luck 9;");
    }

    private static void films() {
        check.promise("24, 27");
        BowWalk x = filmed();
        due("none told: all", x.fits(0), 51);
        due("25 45 30 50, 27 off 2", x.film(0, 0, 5, 27, 2), 0);
        due("fits", x.fits(0), 1);
        x = filmed();
        due("28 off 3", x.film(0, 0, 5, 28, 3), 0);
        due("fits", x.fits(0), 17);
        due("24 off 6", x.film(0, 0, 5, 24, 6), 1);
        due("fits", x.fits(0), 17);
        due("24 off 5", x.film(0, 0, 5, 24, 5), 2);
        due("fits", x.fits(0), 1);
        due("none lets it", x.film(0, 0, 5, 29999, 999), 3);
        due("fits", x.fits(0), 0);
        x = filmed();
        due("OPEN: 100 is all that slips", x.film(0, 0, 500, 120, 0), 0);
        due("fits", x.fits(0), 17);
        due("w stays", x.about(8), 1);
        x = Check.shop("knot a over;walk v 1 1;");
        due("a FILM without CORDS", x.film(0, 0, 1, 20, 0), 0);
        due("0 without CORDS", x.fits(0), 0);
        x = Check.shop("knot a over;" + CORD + CORD.replace("cord c", "cord d") + CORD.replace("cord c", "cord e")
                + CORD.replace("cord c", "cord f") + "walk v 1 1;law a rub 0 pull 0;law b rub 0 pull 0;law c rub 0 pull 0;");
        due("all of 12 pairs", x.fits(0), 4095);

        check.promise("24, wrong");
        x = filmed();
        due("no KNOT", x.film(2, 0, 5, 27, 2), -1);
        due("KNOT -1", x.film(-1, 0, 5, 27, 2), -1);
        due("no WALK", x.film(0, 2, 5, 27, 2), -1);
        due("WALK -1", x.film(0, -1, 5, 27, 2), -1);
        due("steps 0", x.film(0, 0, 0, 27, 2), -1);
        due("steps 501", x.film(0, 0, 501, 27, 2), -1);
        due("length -1", x.film(0, 0, 5, -1, 2), -1);
        due("length 30000", x.film(0, 0, 5, 30000, 2), -1);
        due("off -1", x.film(0, 0, 5, 27, -1), -1);
        due("off 1000", x.film(0, 0, 5, 27, 1000), -1);
        due("length MIN", x.film(0, 0, 5, MIN, 2), -1);
        due("about(5)", x.about(5), 0);
        due("edges", x.film(0, 0, 500, 29999, 999), 0);
        due("edges", x.film(1, 1, 1, 0, 0), 1);
    }

    private static void filmsAsKnown() {
        check.promise("24, 25, 27: two times");
        BowWalk x = filmed();
        x.later(5);
        x.film(0, 0, 5, 28, 3);
        x.later(3);
        x.film(0, 0, 5, 24, 5);
        x.later(2);
        check.due("untell(1)", x.untell(1), true);
        check.due("untell(1)", x.untell(1), false);
        x.later(2);
        check.due("untell(0)", x.untell(0), true);
        int[][] known = {{MIN, 51}, {-1, 51}, {4, 51}, {5, 17}, {7, 17}, {8, 1}, {9, 1}, {10, 17}, {11, 17}, {12, 51}, {MAX, 51}};
        for (int[] row : known) {
            due("fits(" + row[0] + ")", x.fits(row[0]), row[1]);
        }
        check.due("untell(2)", x.untell(2), false);
        check.due("untell(-1)", x.untell(-1), false);
        check.due("untell(MAX)", x.untell(MAX), false);
        due("FILMS", x.about(5), 2);
        x = filmed();
        x.film(0, 0, 5, 24, 5);
        due("told", x.fits(MAX), 1);
        check.due("untold at the same TIME", x.untell(0), true);
        due("fits(0)", x.fits(0), 51);
        due("fits(-1)", x.fits(-1), 51);
    }

    private static void filmsMost() {
        check.promise("24, 40 at most");
        BowWalk x = filmed();
        for (int i = 0; i < 40; i++) {
            due("film", x.film(0, 0, 5, 25, 999), i);
        }
        due("a 41st", x.film(0, 0, 5, 25, 999), -1);
        check.due("untell(39)", x.untell(39), true);
        due("untold ones are among the 40", x.film(0, 0, 5, 25, 999), -1);
        due("about(5)", x.about(5), 40);
        check.due("untell(40)", x.untell(40), false);
    }

    private static void parts() {
        check.promise("28");
        BowWalk x = filmed();
        due("the WALK", x.parts(0, 5, 0, 0), 0);
        due("lengths", x.parts(0, 5, 1, 0), 4);
        due("behind 20 STEPS 40 60 60 80", x.parts(0, 20, 1, 0), 3);
        due("behind 100 STEPS and more 120 140", x.parts(0, 500, 1, 0), 2);
        due("of like ones the first", x.parts(0, 500, 0, 0), 0);
        x.film(0, 0, 5, 28, 3);
        due("of pairs that FIT", x.parts(0, 5, 1, 0), 2);
        due("as known ahead of it", x.parts(0, 5, 1, -1), 4);
        x.film(0, 0, 5, 24, 5);
        due("one pair", x.parts(0, 5, 1, 0), 1);
        due("the first WALK", x.parts(0, 5, 0, 0), 0);
        x.film(0, 0, 5, 0, 0);
        due("nothing FITS", x.parts(0, 5, 0, 0), -1);
        due("nothing FITS", x.parts(0, 5, 1, 0), -1);
        due("no KNOT", x.parts(2, 5, 0, -1), -1);
        due("KNOT -1", x.parts(-1, 5, 0, -1), -1);
        due("steps 0", x.parts(0, 0, 0, -1), -1);
        due("steps 501", x.parts(0, 501, 0, -1), -1);
        due("what 2", x.parts(0, 5, 2, -1), -1);
        due("what -1", x.parts(0, 5, -1, -1), -1);
        x = Check.shop("knot a over;" + CORD + "walk w 10 0;walk v 20 0;law a rub 0 pull 10;law b rub 0 pull strike;");
        due("not the first WALK", x.parts(0, 5, 0, 0), 1);
        due("without WALKS", Check.shop("knot a over;" + CORD).parts(0, 5, 0, 0), -1);
        due("without CORDS", Check.shop("knot a over;walk w 1 1;").parts(0, 5, 0, 0), -1);
    }

    private static void began() {
        check.promise("29");
        BowWalk x = Check.shop("knot a over;" + CORD + "cord d smooth 15 weight 0 long 20;walk v 5 0 10 0 20 0;"
                + "law a rub smooth pull strike;law b rub 10 pull strike;");
        x.film(0, 0, 500, 0, 0);
        x.film(0, 0, 2, 0, 0);
        due("pair 0", x.began(0, 0), 1);
        due("pair 1", x.began(0, 1), 3);
        due("pair 4", x.began(0, 4), 3);
        due("pair 5", x.began(0, 5), 3);
        due("none in its STEPS", x.began(1, 1), -1);
        due("first", x.began(1, 0), 1);
        for (int pair : new int[] {-1, 2, 3, 6, 8, 9, 12, MIN, MAX}) {
            due("pair " + pair, x.began(0, pair), -1);
        }
        due("no FILM", x.began(2, 0), -1);
        due("FILM -1", x.began(-1, 0), -1);
        x.untell(0);
        due("an UNTOLD one is a FILM", x.began(0, 0), 1);
        x = Check.shop("knot a over;" + CORD + "walk v 0 0;tight 5;");
        x.film(0, 0, 9, 0, 0);
        due("untold LAW, nothing slips", x.began(0, 0), -1);
        due("no LAW 1", x.began(0, 4), -1);
    }

    private static void later() {
        check.promise("26");
        BowWalk x = new BowWalk();
        due("later(0)", x.later(0), 0);
        due("later(-1)", x.later(-1), -1);
        due("later(1001)", x.later(1001), -1);
        due("later(MAX)", x.later(MAX), -1);
        for (int i = 1; i < 100; i++) {
            due("later(1000)", x.later(1000), 1000 * i);
        }
        due("later(999)", x.later(999), 99999);
        due("later(2)", x.later(2), -1);
        due("later(1)", x.later(1), 100000);
        due("later(1)", x.later(1), -1);
        due("later(0)", x.later(0), 100000);
        due("about(6)", x.about(6), 100000);
    }

    private static void seedImageBack() {
        check.promise("30, 31, 32");
        BowWalk x = Check.shop("knot a over under;" + CORD + "walk v 10 0 20 0 30 0;walk w 0 0;tight 9;law l rub 0 pull strike;");
        due("seed(5)", x.seed(5), 1);
        due("seed(MIN)", x.seed(MIN), 5);
        due("seed(-1)", x.seed(-1), MIN);
        due("w may be NONE", x.about(8), -1);
        due("image without a BOW", x.image(0), -1);
        due("back of nothing", x.back(0), -1);
        x.tie(0, 0);
        due("walk", x.walk(0, 2), 1 + 1 + 2 + 1);
        due("image(3)", x.image(3), -1);
        due("image(-1)", x.image(-1), -1);
        due("image(2)", x.image(2), 2);
        due("walk", x.walk(0, 1), 3 + 2);
        due("walk", x.walk(1, 1), 0);
        due("pull", x.pull(999), 3 + 2);
        due("image(0)", x.image(0), 1);
        due("pull", x.pull(999), 3);
        due("image(1)", x.image(1), 0);
        x.seed(77);
        due("back(1)", x.back(1), 0);
        due("w", x.about(8), -1);
        due("back(2)", x.back(2), 2);
        int[] now = {2, 12, 13, 2, 5};
        for (int what = 0; what < 5; what++) {
            due("bow(" + what + ")", x.bow(what), now[what]);
        }
        due("bow(10)", x.bow(10), 7);
        due("bow(11)", x.bow(11), 6);
        due("goes on where it was", x.walk(0, 1), 5);
        due("a BOX stays as it was kept", x.back(2), 2);
        due("bow(11)", x.bow(11), 6);
        due("back(3)", x.back(3), -1);
        due("back(-1)", x.back(-1), -1);
        x.tie(0, 0);
        due("kept while another is tied", x.back(0), 1);
        due("bow(4)", x.bow(4), 15);
        due("bow(3)", x.bow(3), 4);
        x.shop();
        due("BOXES are empty behind shop()", x.back(0), -1);
        due("w stays", x.about(8), -1);
    }

    private static void about() {
        check.promise("33");
        BowWalk x = Check.shop("knot a over;knot b over;knot c over;cord a smooth 1 weight 1 long 1;cord b smooth 1 weight 1 long 1;"
                + "walk a 1 1;law a rub (tight) pull 1;want a holds 1 pull 1;want b holds 1 pull 1;");
        x.film(0, 0, 1, 1, 1);
        x.film(0, 0, 1, 1, 1);
        x.later(9);
        x.seed(123);
        x.feed(1, 2, 3, 4, 5);
        int[] want = {3, 2, 1, 1, 2, 2, 9, 20, 123, 3};
        for (int what = 0; what < 10; what++) {
            due("about(" + what + ")", x.about(what), want[what]);
        }
        for (int what : new int[] {-1, 10, MIN, MAX}) {
            due("about(" + what + ")", x.about(what), -1);
        }
    }
}
