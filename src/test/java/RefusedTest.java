import java.util.ArrayList;
import java.util.List;

/**
 * "NONE, doing nothing", "all stays", and questions that only ask: behind such a call an object goes on as its twin
 * that was not called so. And every call with every pair of odd arguments answers as the Model does.
 */
public final class RefusedTest {
    private static final Check check = new Check();
    private static final int[] ODD = {Integer.MIN_VALUE, Integer.MIN_VALUE + 1, -1001, -10, -2, -1, 0, 1, 2, 3, 4, 5, 6, 7, 8, 9, 10, 11,
        12, 21, 22, 31, 32, 39, 40, 41, 99, 100, 499, 500, 501, 990, 999, 1000, 1001, 1600, 1601, 1999, 2000, 2001, 29999, 30000,
        100000, 100001, Integer.MAX_VALUE - 1, Integer.MAX_VALUE};
    private static final String SHOP = "knot g over over under;knot s over under;cord c smooth 1 weight 2 long 30;"
            + "cord d smooth 9 weight 9 long 20;walk w 50 50 1 1;walk v 9 9;tight 60;luck 9;law a rub tight * (2 - like) - strike pull "
            + "weight + long * 2 + swing;law b rub not (tight > 5) * 40 pull 50;want a holds 18 pull 130;want b holds 1 pull 999;";

    /** A call of the face; of BowWalk and of the Model alike. */
    private static final String[] CALLS = {"knot 2", "holds 4", "begins 3", "alone 4", "undone 2", "met 4", "meets 3", "odds 3", "worse 4",
        "which 3", "best 5", "both 2", "ends 4", "change 5", "parts 4", "fits 1", "began 2", "about 1", "bow 1", "fault 1"};
    private static final String[] CHANGING = {"tie 2", "walk 2", "pull 1", "film 5", "untell 1", "later 1", "seed 1", "image 1", "back 1",
        "end 1"};

    public static void main(String[] args) {
        refusedDoNothing();
        questionsDoNothing();
        questionsInAnyOrder();
        oddArguments();
        oddArgumentsOfNone();
        oddArgumentsOfChangingCalls();
        check.close("RefusedTest");
    }

    private static void tell(BowWalk x, String text) {
        Check.tape(x, text);
        x.shop();
    }

    /** An object that has something of all: a BOW on its way, full BOXES but one, FILMS, UNTOLD ones, a TAPE. */
    private static BowWalk busy() {
        BowWalk x = new BowWalk();
        tell(x, "tight 0;");
        x.end(0);
        tell(x, SHOP);
        x.later(3);
        x.film(0, 0, 2, 70, 9);
        x.later(2);
        x.film(1, 1, 3, 75, 15);
        x.untell(0);
        x.seed(4711);
        x.tie(1, 1);
        x.walk(1, 2);
        x.image(0);
        x.tie(0, 0);
        x.walk(0, 1);
        x.pull(150);
        x.image(2);
        x.walk(0, 2);
        Check.tape(x, "knot z over;knot z over;");
        x.shop();
        return x;
    }

    /** All that can be seen of an object, the BOXES and where its WALK goes on among it; it is used up by that. */
    private static List<Integer> seen(BowWalk x) {
        List<Integer> seen = new ArrayList<>();
        plain(x, seen);
        seen.add(x.walk(0, 1));
        seen.add(x.walk(1, 1));
        plain(x, seen);
        for (int box = 0; box < 3; box++) {
            seen.add(x.back(box));
            plain(x, seen);
            seen.add(x.walk(1, 1));
            seen.add(x.walk(0, 3));
            plain(x, seen);
        }
        seen.add(x.film(0, 0, 1, 60, 30));
        seen.add(x.fits(x.about(6)));
        seen.add(x.untell(0) ? 1 : 0);
        seen.add(x.untell(1) ? 1 : 0);
        seen.add(x.shop());
        seen.add(x.fault(1));
        seen.add(x.end(12));
        seen.add(x.shop());
        plain(x, seen);
        return seen;
    }

    private static void plain(BowWalk x, List<Integer> seen) {
        for (int what = 0; what < 10; what++) {
            seen.add(x.about(what));
        }
        for (int what = 0; what < 22; what++) {
            seen.add(x.bow(what));
        }
        for (int k = 2; k < 7; k++) {
            seen.add(x.fits(k));
        }
        seen.add(x.fault(0));
        seen.add(x.fault(1));
        seen.add(x.knot(0, 1));
        seen.add(x.holds(0, 0, 0, 0));
        seen.add(x.holds(1, 1, 1, 1));
        seen.add(x.undone(0, 1));
        seen.add(x.began(1, 0));
    }

    private static void refused(String call, int... arguments) {
        BowWalk x = busy();
        check.due(call + Calls.told(arguments), Calls.of(x, call, arguments), call.equals("worse") ? -10000 : call.equals("untell") ? 0 : -1);
        check.isTrue("behind " + call + Calls.told(arguments) + " all stays", seen(x).equals(seen(busy())));
    }

    private static void refusedDoNothing() {
        check.promise("NONE, doing nothing");
        check.isTrue("an object with a BOW, BOXES, FILMS", busy().bow(0) > 0 && busy().back(0) > 0 && busy().back(2) > 0
                && busy().about(5) == 2 && busy().about(7) == 24 && busy().fault(0) == 3);
        refused("end", 25);
        refused("end", -1);
        refused("shop");
        for (int no : new int[] {-1, 2, Integer.MIN_VALUE, Integer.MAX_VALUE}) {
            refused("tie", no, 0);
            refused("tie", 0, no);
            refused("walk", no, 1);
            refused("film", no, 0, 1, 60, 0);
            refused("film", 0, no, 1, 60, 0);
            refused("untell", no);
            refused("began", no, 0);
        }
        for (int steps : new int[] {-1, 501, Integer.MIN_VALUE, Integer.MAX_VALUE}) {
            refused("walk", 0, steps);
            refused("film", 0, 0, steps, 60, 0);
        }
        for (int no : new int[] {-1, 30000, Integer.MIN_VALUE, Integer.MAX_VALUE}) {
            refused("film", 0, 0, 1, no, 0);
            refused("film", 0, 0, 1, 60, no);
            refused("pull", no);
            refused("later", no);
            refused("image", no);
            refused("back", no);
        }
        refused("film", 0, 0, 0, 60, 0);
        refused("film", 0, 0, 1, 60, 1000);
        refused("pull", 1000);
        refused("later", 1001);
        refused("untell", 0);
        refused("image", 3);
        refused("back", 3);
        refused("back", 1);
        feedRefused();
    }

    private static void feedRefused() {
        BowWalk x = full();
        check.due("feed", x.feed(1, 2, 3, 4, 5), -1);
        check.isTrue("behind feed all stays", seen(x).equals(seen(full())));
    }

    /** Only blanks behind its text, up to the brim. */
    private static BowWalk full() {
        BowWalk x = busy();
        while (x.feed(0x20202020, 0x20202020, 0x20202020, 0x20202020, 0x20202020) >= 0) {
            check.isTrue("not above the brim", x.about(7) <= 1600);
        }
        return x;
    }

    private static void questionsDoNothing() {
        check.promise("what asks changes nothing");
        int[][] arguments = {{0, 0, 0, 0, 0}, {1, 1, 1, 1, 1}, {1, 0, 1, 0, 1}, {-1, 0, 0, 0, 0}, {0, 0, 0, 5, 1}, {3, 0, 0, 99, 2}};
        for (String call : CALLS) {
            String name = call.split(" ")[0];
            int n = Integer.parseInt(call.split(" ")[1]);
            for (int[] row : arguments) {
                int[] these = java.util.Arrays.copyOf(row, n);
                BowWalk x = busy();
                Calls.of(x, name, these);
                check.isTrue("behind " + name + Calls.told(these) + " all stays", seen(x).equals(seen(busy())));
            }
        }
    }

    private static final String[] QUESTIONS = {"holds 0 0 0 0", "holds 1 1 1 1", "begins 0 1 0", "begins 1 0 0", "alone 0 0 0 0",
        "alone 1 1 0 1", "undone 0 0", "undone 1 1", "met 0 0 1 0", "met 0 1 0 0", "meets 0 0 0", "meets 1 1 1", "odds 0 18 0", "odds 1 20 0",
        "worse 0 0 0 1", "worse 1 1 0 0", "which 0 0 0", "which 1 1 1", "best 2 0 0 150 1", "best 3 1 0 999 1", "both 0 0", "both 1 0",
        "ends 0 0 0 9", "ends 1 1 1 9", "change 0 0 0 18 0", "change 1 1 0 24 1", "parts 0 5 1 2", "parts 1 9 1 9", "fits 9", "began 0 0",
        "began 1 5"};

    private static void questionsInAnyOrder() {
        check.promise("a question answers the same, whatever was asked ahead of it");
        for (String second : QUESTIONS) {
            int want = answer(busy(), second);
            for (String first : QUESTIONS) {
                BowWalk x = busy();
                answer(x, first);
                check.due(second + " behind " + first, answer(x, second), want);
            }
        }
    }

    private static int answer(BowWalk x, String question) {
        String[] words = question.split(" ");
        int[] arguments = new int[words.length - 1];
        for (int i = 0; i < arguments.length; i++) {
            arguments[i] = Integer.parseInt(words[i + 1]);
        }
        return Calls.of(x, words[0], arguments);
    }

    // ---- held against the Model ----

    private static void oddArguments() {
        check.promise("odd arguments");
        BowWalk x = new BowWalk();
        Model m = new Model();
        both(x, m, SHOP);
        for (String call : new String[] {"later 1", "film 5", "tie 2"}) {
            String name = call.split(" ")[0];
            int[] row = name.equals("film") ? new int[] {0, 0, 2, 70, 9} : new int[] {1, 1};
            int[] these = java.util.Arrays.copyOf(row, Integer.parseInt(call.split(" ")[1]));
            check.due(name, Calls.of(x, name, these), Calls.of(m, name, these));
        }
        everyPairOfOddOnes(x, m);
    }

    private static void oddArgumentsOfNone() {
        check.promise("odd arguments, without anything");
        everyPairOfOddOnes(new BowWalk(), new Model());
        check.promise("odd arguments, without WALKS");
        BowWalk x = new BowWalk();
        Model m = new Model();
        both(x, m, "knot a over;cord c smooth 1 weight 1 long 1;want a holds 1 pull 1;");
        everyPairOfOddOnes(x, m);
        check.promise("odd arguments, without CORDS");
        both(x, m, "knot a over;walk w 1 1;want a holds 1 pull 1;");
        everyPairOfOddOnes(x, m);
        check.promise("odd arguments, without KNOTS");
        both(x, m, "cord c smooth 1 weight 99 long 1;walk w 1 1;want a holds 1 pull 1;");
        everyPairOfOddOnes(x, m);
    }

    private static void both(BowWalk x, Model m, String text) {
        tell(x, text);
        m.tape = text;
        m.shop();
    }

    private static void everyPairOfOddOnes(BowWalk x, Model m) {
        for (String call : CALLS) {
            String name = call.split(" ")[0];
            int n = Integer.parseInt(call.split(" ")[1]);
            int[] plain = plainArguments(name, n);
            for (int i = 0; i < n; i++) {
                for (int j = i; j < n; j++) {
                    pairs(x, m, name, plain, i, j);
                }
            }
        }
    }

    private static int[] plainArguments(String name, int n) {
        int[] plain = new int[n];
        switch (name) {
            case "odds" -> plain[1] = 5;
            case "best" -> {
                plain[0] = 2;
                plain[3] = 100;
            }
            case "ends", "change" -> plain[3] = 5;
            case "parts" -> plain[1] = 5;
            default -> { }
        }
        return plain;
    }

    private static void pairs(BowWalk x, Model m, String name, int[] plain, int i, int j) {
        for (int a : ODD) {
            for (int b : i == j ? new int[] {a} : ODD) {
                int[] these = plain.clone();
                these[i] = a;
                these[j] = b;
                check.due(name + Calls.told(these), Calls.of(x, name, these), Calls.of(m, name, these));
            }
        }
    }

    private static void oddArgumentsOfChangingCalls() {
        check.promise("odd arguments of what changes something");
        for (String call : CHANGING) {
            String name = call.split(" ")[0];
            int n = Integer.parseInt(call.split(" ")[1]);
            int[] plain = name.equals("film") ? new int[] {0, 0, 2, 70, 9} : new int[n];
            BowWalk x = new BowWalk();
            Model m = new Model();
            both(x, m, SHOP);
            for (int i = 0; i < n; i++) {
                for (int odd : ODD) {
                    int[] these = plain.clone();
                    these[i] = odd;
                    change(x, m, name, these);
                    if (name.equals("walk") || name.equals("pull") || name.equals("image")) {
                        change(x, m, "tie", new int[] {0, 0});
                    }
                }
            }
        }
    }

    private static void change(BowWalk x, Model m, String name, int[] these) {
        String told = name + Calls.told(these);
        check.due(told, Calls.of(x, name, these), Calls.of(m, name, these));
        for (int what = 0; what < 10; what++) {
            check.due("about(" + what + ") behind " + told, x.about(what), m.about(what));
        }
        for (int what = 0; what < 22; what++) {
            check.due("bow(" + what + ") behind " + told, x.bow(what), m.bow(what));
        }
    }
}
