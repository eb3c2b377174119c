/** Promises 2 to 6 and 33: the TAPE, TOKENS, lines, limits and FAULTS with their places. */
public final class FaultTest {
    private static final Check check = new Check();

    public static void main(String[] args) {
        tape();
        tokens();
        lines();
        names();
        numbers();
        limits();
        laws();
        cutTexts();
        whatStays();
        check.close("FaultTest");
    }

    private static void faulty(int kind, String marked) {
        check.faulty(kind, marked);
    }

    private static BowWalk right(int knots, String text) {
        return check.right(knots, text);
    }

    private static void tape() {
        check.promise("2 feed, 3 end");
        BowWalk x = new BowWalk();
        check.due("about(7)", x.about(7), 0);
        check.due("end(0)", x.end(0), 0);
        check.due("end(1)", x.end(1), -1);
        for (int i = 1; i <= 79; i++) {
            check.due("feed", x.feed(0x20202020, 0x20202020, 0x20202020, 0x20202020, 0x20202020), 20 * i);
        }
        check.due("feed to the brim", x.feed(0x20202020, 0x20202020, 0x20202020, 0x20202020, 0x20202020), 1600);
        check.due("feed beyond", x.feed(0, 0, 0, 0, 0), -1);
        check.due("about(7)", x.about(7), 1600);
        check.due("end(1601)", x.end(1601), -1);
        check.due("end(-1)", x.end(-1), -1);
        check.due("end(MIN)", x.end(Integer.MIN_VALUE), -1);
        check.due("end(1581)", x.end(1581), 1581);
        check.due("feed of 1601", x.feed(0, 0, 0, 0, 0), -1);
        check.due("about(7)", x.about(7), 1581);
        check.due("end(1580)", x.end(1580), 1580);
        check.due("feed of 1600", x.feed(0, 0, 0, 0, 0x2424), 1600);
        check.due("shop()", x.shop(), -1);
        check.due("a 0 byte is no TOKEN", x.fault(0), 1);
        check.due("behind blanks", x.fault(1), 1580);
        check.due("end(1580)", x.end(1580), 1580);
        check.due("shop() of blanks", x.shop(), 0);
        check.due("about(7)", x.about(7), 0);

        // each of the numbers has its highest byte first: "kn" "ot a over;  "
        x = new BowWalk();
        check.due("feed", x.feed(0x6b6e6f74, 0x20612075, 0x6e646572, 0x3b0a0a0a, 0x20202020), 20);
        check.due("shop()", x.shop(), 1);
        check.due("knot(0, 1)", x.knot(0, 1), 1);
    }

    private static void tokens() {
        check.promise("4 shop, 5 fault: TOKENS");
        faulty(1, "^A");
        faulty(1, "knot a over^\tunder;");
        faulty(1, "knot a over;\n ^,");
        faulty(1, "knot a over;^" + (char) 233);
        faulty(1, "knot a over^\r;");
        faulty(1, "^_");
        right(1, "knot abcdefgh over;");
        faulty(1, "knot ^abcdefghi over;");
        faulty(1, "^knotaaover x;");
        faulty(2, "^knota over;");
        right(0, "tight 999;luck 49;");
        right(0, "tight 0001;luck 0000;");
        faulty(1, "tight ^00001;");
        faulty(1, "tight ^1a;");
        faulty(1, "tight ^9999a;");
        faulty(1, "cord c smooth ^1weight 2 long 3;");
        right(0, "cord c smooth1 weight2 long3;");
        right(0, "walk a1 2;");
        right(1, "\n\nknot\na\nover\n;\n");
        right(2, "knot a over under;knot b under;tight5;luck5;");
        // a TOKEN that can't be read ends the look where it stands, not ahead of it
        faulty(2, "knot a ^5 $;");
        faulty(4, "tight ^0 $;");
        faulty(1, "tight ^$;");
        faulty(1, "knot ^$;");
        faulty(1, "knot a over ^12345;");
    }

    private static void lines() {
        check.promise("4 shop, 5 fault: lines");
        right(0, "");
        right(0, "  \n ");
        faulty(2, "^;");
        faulty(2, "^5");
        faulty(2, "^over;");
        faulty(2, "^shop;");
        faulty(2, "knot^");
        faulty(2, "knot   ^");
        faulty(2, "knot a^");
        faulty(2, "knot a over^");
        faulty(2, "knot a over \n ^");
        faulty(2, "knot a ^;");
        faulty(2, "knot ^;");
        faulty(2, "knot ^5 over;");
        faulty(2, "knot a over ^b;");
        faulty(2, "knot a over;^;");
        faulty(2, "cord c ^weight 1 smooth 1 long 1;");
        faulty(2, "cord c smooth ^weight 1 long 1;");
        faulty(2, "cord c smooth 1 weight 1 ^;");
        faulty(2, "cord c smooth 1 weight 1 long 1 ^1;");
        faulty(2, "walk w ^;");
        faulty(2, "walk w 1 ^;");
        faulty(2, "walk w 1 2 3 ^;");
        faulty(2, "walk w 1 2 ^- 3;");
        faulty(2, "tight ^;");
        faulty(2, "tight 5 ^5;");
        faulty(2, "luck ^a;");
        faulty(2, "want w ^pull 1 holds 1;");
        faulty(2, "want w holds 1 ^;");
        faulty(2, "want w holds 1 pull 1 ^holds 2;");
        faulty(2, "law l ^pull 1 rub 1;");
        faulty(2, "law l rub 1 ^;");
        faulty(2, "law l rub 1 pull ^;");
        faulty(2, "law l rub 1 pull 1^");
    }

    private static void names() {
        check.promise("4 shop, 5 fault: NAMES");
        String[] words = {"knot", "cord", "walk", "law", "want", "tight", "like", "place", "smooth", "weight", "long",
            "strike", "swing", "luck", "over", "under", "rub", "pull", "holds", "or", "and", "not"};
        for (String word : words) {
            faulty(2, "knot ^" + word + " over;");
        }
        String[] free = {"line", "e", "both", "one", "sum", "term", "unit", "name", "side", "n", "shop", "knots",
            "kno", "ove", "bow", "open", "a", "z", "zzzzzzzz"};
        for (String word : free) {
            right(1, "knot " + word + " over;");
        }
        faulty(3, "knot a over;knot ^a under;");
        faulty(3, "knot a over;knot ab over;knot b over;knot ^ab");
        faulty(3, "cord a smooth 1 weight 1 long 1;cord ^a");
        faulty(3, "walk a 1 1;walk ^a");
        faulty(3, "law a rub 1 pull 1;law ^a");
        faulty(3, "want a holds 1 pull 1;want ^a");
        right(1, "knot a over;cord a smooth 1 weight 1 long 1;walk a 1 1;law a rub 1 pull 1;want a holds 1 pull 1;");
        right(2, "knot a over;knot aa over;");
    }

    private static void numbers() {
        check.promise("4 shop, 5 fault: numbers");
        right(0, "cord a smooth 0 weight 0 long 1;cord b smooth 99 weight 99 long 999;");
        faulty(4, "cord a smooth ^100 weight 0 long 1;");
        faulty(4, "cord a smooth 0 weight ^100 long 1;");
        faulty(4, "cord a smooth 0 weight 0 long ^0;");
        faulty(4, "cord a smooth 0 weight 0 long ^1000;");
        right(0, "walk a 0 0 99 99;");
        faulty(4, "walk a ^100 0;");
        faulty(4, "walk a 0 ^100;");
        faulty(4, "walk a 0 0 0 0 ^100");
        faulty(4, "tight ^0;");
        faulty(4, "tight ^1000;");
        faulty(4, "luck ^50;");
        right(0, "want a holds 1 pull 0;want b holds 2000 pull 999;");
        faulty(4, "want a holds ^0 pull 0;");
        faulty(4, "want a holds ^2001 pull 0;");
        faulty(4, "want a holds 1 pull ^1000;");
        right(0, "law a rub 0 pull 9999;");
    }

    private static void limits() {
        check.promise("4 shop, 5 fault: limits");
        String knots = "knot a over;knot b over;knot c over;knot d over;knot e over;knot f over;";
        right(6, knots);
        faulty(2, knots + "^knot g over;");
        faulty(2, knots + "^knot a");
        String sides = " over under over under over under over under over under over under";
        right(1, "knot a" + sides + ";");
        faulty(2, "knot a" + sides + " ^over;");
        String cord = " smooth 1 weight 1 long 1;";
        String cords = "cord a" + cord + "cord b" + cord + "cord c" + cord + "cord d" + cord;
        check.due("about(1)", right(0, cords).about(1), 4);
        faulty(2, cords + "^cord");
        String walks = "walk a 1 1;walk b 1 1;walk c 1 1;walk d 1 1;";
        check.due("about(2)", right(0, walks).about(2), 4);
        faulty(2, walks + "^walk");
        String eight = " 1 2 1 2 1 2 1 2 1 2 1 2 1 2 1 2";
        right(0, "walk a" + eight + ";");
        faulty(2, "walk a" + eight + " ^1 2;");
        faulty(2, "walk a" + eight + " ^100 2;");
        String laws = "law a rub 1 pull 1;law b rub 1 pull 1;law c rub 1 pull 1;";
        BowWalk x = right(0, laws);
        check.due("about(3)", x.about(3), 3);
        check.due("about(9)", x.about(9), 6);
        faulty(2, laws + "^law");
        String wants = "want a holds 1 pull 1;want b holds 1 pull 1;want c holds 1 pull 1;want d holds 1 pull 1;";
        check.due("about(4)", right(0, wants).about(4), 4);
        faulty(2, wants + "^want");
        faulty(2, "tight 5;^tight 6;");
        faulty(2, "luck 5;^luck 5;");
        right(0, "tight 5;luck 5;");
    }

    private static void laws() {
        check.promise("4 shop, 5 fault: e");
        right(0, "law a rub tight + like - place * smooth / weight pull long < strike and not swing > 5 or 5 = 5;");
        faulty(2, "law a rub 1 < 2 ^< 3 pull 1;");
        right(0, "law a rub (1 < 2) < 3 pull 1;");
        faulty(2, "law a rub 1 + ^not 2 pull 1;");
        right(0, "law a rub 1 + (not 2) pull 1;");
        faulty(2, "law a rub ^- 2 pull 1;");
        faulty(2, "law a rub (^) pull 1;");
        faulty(2, "law a rub (1 ^pull 1;");
        faulty(2, "law a rub 1 ^) pull 1;");
        faulty(2, "law a rub 1 ^2 pull 1;");
        faulty(2, "law a rub ^over pull 1;");
        faulty(2, "law a rub ^luck pull 1;");
        faulty(2, "law a rub ^x pull 1;");
        faulty(2, "law a rub 1 or ^or pull 1;");
        faulty(1, "law a rub ^12345 pull 1;");
        right(0, "law a rub (((((((1))))))) pull (((((((1)))))));");
        faulty(2, "law a rub (((((((^(1)))))))) pull 1;");
        right(0, "law a rub not not not not not not not 1 pull 1;");
        faulty(2, "law a rub not not not not not not not ^not 1 pull 1;");
        faulty(2, "law a rub not not not not not not not ^(1) pull 1;");
        faulty(2, "law a rub not (not (not (not ^(1)))) pull 1;");
        faulty(2, "law a rub (not (not (not (^not 1)))) pull 1;");
        right(0, "law a rub not (not (not (not 1))) pull 1;");
        // what stands beside it does not count
        right(0, "law a rub not not not not not not not 1 and not not not not not not not 1 pull 1;");
        right(0, "law a rub (((((((1))))))) + (((((((1))))))) pull 1;");

        StringBuilder sixty = new StringBuilder("law a rub 0");
        for (int i = 1; i < 50; i++) {
            sixty.append("+").append(i);
        }
        sixty.append(" pull (1)+(2)+(3)+(4)");
        check.due("about(9)", right(0, sixty + ";").about(9), 58);
        check.due("about(9)", right(0, sixty + "+(5);").about(9), 60);
        faulty(2, sixty + "+(5)+^6;");
        faulty(2, sixty + "+(5)+^(6);");
        faulty(2, sixty + "+5+(^6);");
        faulty(2, sixty + "+(5);law b rub ^6 pull 1;");
        check.due("untold laws have no units", right(1, "knot a over;").about(9), 0);

        // as many times not as a text can hold: all is read
        StringBuilder nots = new StringBuilder("law a rub 1");
        for (int i = 0; i < 46; i++) {
            nots.append(" and not not not not not not not 1");
        }
        right(0, nots + " pull 1;");
    }

    /** Fed whole, cut to its first n bytes: what stood behind them must not be seen. */
    private static void cut(int kind, int place, String text, int n) {
        BowWalk x = new BowWalk();
        Check.tape(x, text);
        check.due("end(" + n + ")", x.end(n), n);
        check.due("shop() of " + text + " cut to " + n, x.shop(), -1);
        check.due("fault(0) of " + text + " cut to " + n, x.fault(0), kind);
        check.due("fault(1) of " + text + " cut to " + n, x.fault(1), place);
    }

    private static void cutTexts() {
        check.promise("3 end, 4 shop: cut texts");
        cut(2, 7, "tight 5a", 7);
        cut(2, 7, "tight 5;", 7);
        cut(4, 6, "tight 12345;", 10);
        cut(2, 13, "knot abcdefghi", 13);
        cut(2, 7, "knot a over;", 7);
        cut(3, 17, "knot a over;knot ab over;", 18);
        StringBuilder full = new StringBuilder("knot a over;");
        while (full.length() < 1596) {
            full.append(' ');
        }
        faulty(2, full + "^over");
        faulty(2, full + "^1234");
        faulty(2, full + "knot^");
        right(2, full.substring(0, 1587) + "knot b over;\n");
        right(1, full + "\n\n\n\n");
    }

    private static void whatStays() {
        check.promise("4 shop, 5 fault: what stays");
        BowWalk x = new BowWalk();
        check.due("fault(0) of none", x.fault(0), 0);
        check.due("fault(1) of none", x.fault(1), -1);
        check.due("fault(2)", x.fault(2), -1);
        check.due("fault(-1)", x.fault(-1), -1);
        String text = "knot a over;cord c smooth 1 weight 2 long 30;walk w 5 5;want v holds 1 pull 0;law l rub 1 pull 1;";
        Check.tape(x, text);
        check.due("shop()", x.shop(), 1);
        check.due("later(7)", x.later(7), 7);
        check.due("seed(9)", x.seed(9), 1);
        check.due("tie(0, 0)", x.tie(0, 0), 1);
        check.due("image(0)", x.image(0), 1);
        check.due("film", x.film(0, 0, 1, 60, 99), 0);
        Check.tape(x, "knot a over under;knot a;");
        check.due("shop()", x.shop(), -1);
        check.due("fault(0)", x.fault(0), 3);
        check.due("fault(1)", x.fault(1), 23);
        check.due("about(7)", x.about(7), 25);
        for (int what = 0; what < 6; what++) {
            check.due("about(" + what + ")", x.about(what), 1);
        }
        check.due("about(9)", x.about(9), 2);
        check.due("knot(0, 0)", x.knot(0, 0), 1);
        check.due("bow(0)", x.bow(0), 1);
        check.due("back(0)", x.back(0), 1);
        // the TAPE is still there, and can be cut to what has no FAULT
        check.due("end(18)", x.end(18), 18);
        check.due("shop()", x.shop(), 1);
        check.due("fault(0)", x.fault(0), 0);
        check.due("fault(1)", x.fault(1), -1);
        check.due("about(0)", x.about(0), 1);
        for (int what = 1; what < 6; what++) {
            check.due("about(" + what + ")", x.about(what), 0);
        }
        check.due("about(6)", x.about(6), 7);
        check.due("about(7)", x.about(7), 0);
        check.due("about(8)", x.about(8), 9);
        check.due("about(9)", x.about(9), 0);
        check.due("knot(0, 0)", x.knot(0, 0), 2);
        check.due("bow(0)", x.bow(0), -1);
        check.due("back(0)", x.back(0), -1);
        check.due("untell(0)", x.untell(0), false);
        check.due("shop() of nothing", x.shop(), 0);
        check.due("about(0)", x.about(0), 0);
    }
}
