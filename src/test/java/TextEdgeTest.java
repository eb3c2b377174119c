import java.nio.charset.StandardCharsets;
import java.util.Set;
import java.util.TreeSet;

/** Each sentence of "Terms" and of the promises 1 to 6 that names an edge has a test of its own here. */
public final class TextEdgeTest {
    private static final Check check = new Check();
    private static final String CORD = "cord c smooth 1 weight 2 long 30;";
    private static final String OWN_WORDS = "knot cord smooth weight long walk tight luck law rub pull want holds over under "
            + "or and not like place strike swing";
    /** A line of each sort, its TOKENS parted by one blank each. */
    private static final String[] LINES = {"knot a over ;", "cord a smooth 1 weight 2 long 3 ;", "walk a 1 2 ;", "tight 5 ;",
        "luck 5 ;", "law a rub 1 pull 2 ;", "want a holds 1 pull 2 ;"};

    public static void main(String[] args) {
        aTextOf1600Bytes();
        emptyAtFirst();
        noLineOrMore();
        nothingIsLeftOut();
        nothingStandsTwice();
        whatCantStandThere();
        wordsOf8Letters();
        numbersOf1To4Digits();
        everyByte();
        blanksPartThemOrNot();
        asLongAsCanBe();
        noLetterBehindANumber();
        ownWordsAreNoNames();
        wordsThatAreUnits();
        howManyOfASort();
        crossings1To12();
        firstIsInnermost();
        steps1To8();
        numbersOfCords();
        numbersOfWalks();
        numbersOfWants();
        numbersOnceEach();
        untoldIs100And0();
        unitsInAll();
        within6Others();
        numberedAsTold();
        faultFirstByPlace();
        faultAtTheEnd();
        faultLeastAtOnePlace();
        faultAtTheLinesFirstWord();
        namesOfTheirSort();
        namesAreTheirLetters();
        lawsOfThisTextAlone();
        newObject();
        feed();
        end();
        shop();
        fault();
        knot();
        check.close("TextEdgeTest");
    }

    private static String times(int n, String part) {
        return part.repeat(n);
    }

    // ---- Terms: the text ----

    private static void aTextOf1600Bytes() {
        check.promise("A SHOP is a text of at most 1,600 bytes");
        check.right(1, times(1588, " ") + "knot a over;");
        check.right(1, "knot a over;" + times(1588, "\n"));
        check.right(1, "knot a" + times(1589, " ") + "over;");
        check.faulty(2, times(1588, " ") + "knot a over ^");
        check.faulty(1, times(1599, " ") + "^$");
        check.faulty(2, times(1599, " ") + "^a");
        check.faulty(2, times(1599, " ") + "^5");
        check.faulty(2, times(1596, " ") + "knot^");
        check.faulty(2, times(1590, " ") + "tight 0005^");
        BowWalk x = new BowWalk();
        Check.tape(x, times(1600, " "));
        check.due("no byte more", x.feed(0x6b6e6f74, 0, 0, 0, 0), -1);
        check.due("shop() of what there is", x.shop(), 0);
    }

    private static void emptyAtFirst() {
        check.promise("(empty at first)");
        BowWalk x = new BowWalk();
        for (int what : new int[] {0, 1, 2, 3, 4, 9}) {
            check.due("about(" + what + ")", x.about(what), 0);
        }
    }

    private static void noLineOrMore() {
        check.promise("shop = {line}");
        check.right(0, "");
        check.right(0, " ");
        check.right(0, "\n");
        check.right(1, "knot a over;");
        check.right(2, "knot a over;knot b over;");
        check.faulty(2, "^;");
        check.faulty(2, "knot a over;^;");
    }

    /** A line of that sort without its i-th TOKEN: what stands there now, or the end, can't. */
    private static void nothingIsLeftOut() {
        check.promise("line = ..: each part of it must be there");
        for (String line : LINES) {
            String[] tokens = line.split(" ");
            for (int i = 0; i < tokens.length; i++) {
                // of a STEP without its strike the swing is the strike, so the swing is not there
                boolean isStrike = tokens[0].equals("walk") && i == 2;
                check.faulty(2, joined(tokens, i, "", isStrike ? i + 2 : i + 1));
            }
        }
    }

    private static void nothingStandsTwice() {
        check.promise("line = ..: no part of it twice");
        for (String line : LINES) {
            String[] tokens = line.split(" ");
            for (int i = 0; i < tokens.length; i++) {
                boolean isStep = tokens[0].equals("walk") && (i == 2 || i == 3);
                String twice = tokens[i] + " " + tokens[i];
                if (isStep) {
                    check.faulty(2, joined(tokens, i, twice, tokens.length - 1));
                } else if (!tokens[i].equals("over")) {
                    check.faulty(2, joined(tokens, i, tokens[i] + " ^" + tokens[i], NOWHERE));
                }
            }
        }
        check.right(1, "knot a over over;");
        check.right(0, "walk a 1 1 2 2;");
    }

    private static void whatCantStandThere() {
        check.promise("2 one that can't stand there, 1 no TOKEN");
        for (String line : LINES) {
            String[] tokens = line.split(" ");
            for (int i = 0; i < tokens.length; i++) {
                check.faulty(2, joined(tokens, i, "^)", NOWHERE));
                for (String none : new String[] {"$", "A", "abcdefghi", "12345", "5a"}) {
                    check.faulty(1, joined(tokens, i, "^" + none, NOWHERE));
                }
            }
        }
    }

    private static final int NOWHERE = -1;

    /** The TOKENS with another text in place of the i-th one, and the sign ^ ahead of one (the end: behind the last). */
    private static String joined(String[] tokens, int i, String instead, int marked) {
        StringBuilder text = new StringBuilder();
        for (int j = 0; j < tokens.length; j++) {
            String token = j == i ? instead : tokens[j];
            text.append(j == marked ? "^" : "").append(token).append(token.isEmpty() ? "" : " ");
        }
        return text.append(marked == tokens.length ? "^" : "").toString();
    }

    // ---- Terms: TOKENS ----

    private static void wordsOf8Letters() {
        check.promise("words (a .. z, 8 at most)");
        check.right(1, "knot a over;");
        check.right(1, "knot z over;");
        check.right(1, "knot abcdefg over;");
        check.right(1, "knot abcdefgh over;");
        check.faulty(1, "knot ^abcdefghi over;");
        check.faulty(1, "knot ^" + times(1500, "z") + " over;");
        // the eighth letter counts, too
        check.right(2, "knot aaaaaaaa over;knot aaaaaaab over;");
        check.faulty(3, "knot aaaaaaaa over;knot ^aaaaaaaa over;");
        check.right(2, "knot zzzzzzzz over;knot zzzzzzz over;");
    }

    private static void numbersOf1To4Digits() {
        check.promise("N (1 to 4 digits)");
        check.right(0, "tight 7;");
        check.right(0, "tight 0007;");
        check.faulty(1, "tight ^00007;");
        check.faulty(1, "tight ^" + times(1500, "0") + ";");
        check.right(0, "law a rub 9999 pull 0000;");
        check.faulty(1, "law a rub ^10000 pull 0;");
        BowWalk x = check.right(1, "knot a over;tight 0042;" + CORD);
        x.tie(0, 0);
        check.due("0042 is 42", x.bow(10), 42);
    }

    private static void everyByte() {
        check.promise("signs ; ( ) < > = + - * /; blanks (32, 10)");
        for (int b = 0; b < 256; b++) {
            char c = (char) b;
            boolean canBe = c >= 'a' && c <= 'z' || c >= '0' && c <= '9' || ";()<>=+-*/".indexOf(c) >= 0;
            if (b == 32 || b == 10) {
                check.right(0, "" + c);
                check.right(0, "tight 5;" + c);
            } else {
                check.faulty(canBe ? 2 : 1, "^" + c);
                check.faulty(canBe ? 2 : 1, "tight 5;^" + c);
            }
        }
    }

    private static void blanksPartThemOrNot() {
        check.promise("blanks (32, 10) part them or not");
        check.right(1, "knot a over;tight 5;");
        check.right(1, "\n\n  knot\na\nover\n;\ntight\n \n5  ;  ");
        check.right(0, "law a rub(tight)+5*(like)pull(5);tight5;luck5;");
        check.right(0, "law a rub ( tight ) + 5 * ( like ) pull ( 5 ) ; tight 5 ; luck 5 ;");
        // a blank within a TOKEN makes two of it
        check.faulty(2, "^kn ot a over;");
        check.faulty(2, "tight 5 ^0;");
        check.faulty(2, "knot a ^ov er;");
    }

    private static void asLongAsCanBe() {
        check.promise("each is as long as can be");
        check.faulty(2, "^knota over;");
        check.faulty(2, "knot a ^overover;");
        check.faulty(2, "^tightx 5;");
        check.faulty(4, "tight ^1000;");
        check.faulty(2, "walk w 12 ^;");
        check.right(0, "walk w 1 2;");
        check.faulty(4, "walk w ^1234;");
        check.faulty(2, "law a rub 1 ^orand 1 pull 1;");
        check.faulty(2, "law a rub ^notx pull 1;");
        check.right(0, "law a rub not1 or(1)pull 1;");
    }

    private static void noLetterBehindANumber() {
        check.promise("no letter directly behind an N");
        check.faulty(1, "tight ^5a;");
        check.faulty(1, "luck ^5z;");
        check.faulty(1, "cord c smooth ^1weight 2 long 3;");
        check.faulty(1, "cord c smooth 1 weight ^2long 3;");
        check.faulty(1, "walk w ^1a 2;");
        check.faulty(1, "walk w 1 ^2a;");
        check.faulty(1, "want w holds ^1pull 1;");
        check.faulty(1, "law a rub ^1pull 1;");
        check.faulty(1, "law a rub ^1or 1 pull 1;");
        check.faulty(1, "law a rub ^9999a pull 1;");
        check.right(0, "law a rub 1 or 1 pull 1;");
        check.right(0, "law a rub 1\nor(1)pull 1;");
        // a digit behind a letter, and what is no letter behind a digit, may be
        check.right(0, "walk a1 2;want b holds1 pull2;");
        check.faulty(1, "tight 5^A;");
    }

    private static void ownWordsAreNoNames() {
        check.promise("Words that stand for themselves here are no NAMES");
        String[] sorts = {"knot # over;", "cord # smooth 1 weight 1 long 1;", "walk # 1 1;", "law # rub 1 pull 1;",
            "want # holds 1 pull 1;"};
        String[] others = {"shop", "line", "e", "both", "one", "sum", "term", "unit", "name", "side", "n", "knots", "kno",
            "overs", "unde", "end", "bow", "lawlaw"};
        for (String sort : sorts) {
            for (String word : OWN_WORDS.split(" ")) {
                check.faulty(2, sort.replace("#", "^" + word));
            }
            for (String word : others) {
                check.right(sort.startsWith("knot") ? 1 : 0, sort.replace("#", word));
            }
        }
    }

    private static void wordsThatAreUnits() {
        check.promise("unit = N | tight | like | place | smooth | weight | long | strike | swing | ( e )");
        String units = " tight like place smooth weight long strike swing ";
        for (String word : (OWN_WORDS + " a unit e").split(" ")) {
            if (units.contains(" " + word + " ")) {
                check.due("units", check.right(0, "law a rub " + word + " pull 1+" + word + ";").about(9), 3);
            } else if (!word.equals("not")) {
                check.faulty(2, "law a rub ^" + word + " pull 1;");
                check.faulty(2, "law a rub 1 pull 1+^" + word + ";");
            }
        }
        check.promise("one = not one | sum [(< | > | =) sum]: one relation, and a not ahead of all of it");
        for (char sign : "<>=".toCharArray()) {
            check.right(0, "law a rub 1" + sign + "1 pull 1;");
            check.faulty(2, "law a rub 1" + sign + "1^" + sign + "1 pull 1;");
            check.faulty(2, "law a rub ^" + sign + "1 pull 1;");
            check.faulty(2, "law a rub 1" + sign + " ^pull 1;");
            check.faulty(2, "law a rub 1" + sign + "^not 1 pull 1;");
        }
        for (char sign : "+-*/".toCharArray()) {
            check.right(0, "law a rub 1" + sign + "1" + sign + "1 pull 1;");
            check.faulty(2, "law a rub ^" + sign + "1 pull 1;");
            check.faulty(2, "law a rub 1" + sign + "^" + sign + "1 pull 1;");
            check.faulty(2, "law a rub 1" + sign + " ^not 1 pull 1;");
            check.faulty(2, "law a rub 1" + sign + " ^pull 1;");
        }
        check.faulty(2, "law a rub (^) pull 1;");
        check.faulty(2, "law a rub (1^;");
        check.faulty(2, "law a rub 1^) pull 1;");
        check.faulty(2, "law a rub 1 ^not 1 pull 1;");
        check.faulty(2, "law a rub 1 and ^or 1 pull 1;");
    }

    // ---- Terms: limits ----

    private static void howManyOfASort() {
        String[] lines = {"knot # over;", "cord # smooth 1 weight 1 long 1;", "walk # 1 1;", "law # rub 1 pull 1;",
            "want # holds 1 pull 1;"};
        int[] most = {6, 4, 4, 3, 4};
        for (int sort = 0; sort < 5; sort++) {
            check.promise("At most 6 KNOTS, 4 CORDS, 4 WALKS, 3 LAWS, 4 WANTS: " + lines[sort]);
            StringBuilder text = new StringBuilder();
            for (int i = 0; i < most[sort]; i++) {
                text.append(lines[sort].replace('#', (char) ('a' + i)));
                BowWalk x = check.right(sort == 0 ? i + 1 : 0, text.toString());
                check.due("about(" + sort + ")", x.about(sort), i + 1);
            }
            check.faulty(2, text + "^" + lines[sort].replace('#', 'z'));
        }
    }

    private static void crossings1To12() {
        check.promise("1 to 12 CROSSINGS; a 13th SIDE: there");
        check.faulty(2, "knot a ^;");
        for (int n = 1; n <= 12; n++) {
            check.due("knot(0, 0)", check.right(1, "knot a" + times(n, " over") + ";").knot(0, 0), n);
        }
        check.faulty(2, "knot a" + times(12, " over") + " ^over;");
        check.faulty(2, "knot a" + times(12, " over") + " ^under over;");
    }

    private static void firstIsInnermost() {
        check.promise("the first one innermost");
        BowWalk x = check.right(1, "knot a under over over;tight 5;" + CORD);
        check.due("bit 0 is the first", x.knot(0, 1), 1);
        x.tie(0, 0);
        // above 5 - 1 by 1, then 4 above 4 not
        check.due("pull(5)", x.pull(5), 1);
        check.due("the last one slipped", x.bow(12), 4);
    }

    private static void steps1To8() {
        check.promise("1 to 8 STEPS; a 9th strike: there");
        check.faulty(2, "walk w ^;");
        for (int n = 1; n <= 8; n++) {
            check.right(0, "walk w" + times(n, " 0 0") + ";");
        }
        check.faulty(2, "walk w" + times(8, " 0 0") + " ^0 0;");
        check.faulty(2, "walk w" + times(8, " 0 0") + " ^0;");
        check.faulty(2, "walk w" + times(8, " 0 0") + " ^100 0;");
        check.faulty(2, "walk w" + times(7, " 0 0") + " 0 ^;");
    }

    /** The number at the sign # may be from least to most: FAULT 4 beside that. */
    private static void numberIn(String text, int least, int most) {
        check.promise("numbers " + least + " .. " + most + " in " + text);
        check.right(0, text.replace("#", "" + least));
        check.right(0, text.replace("#", "" + most));
        check.faulty(4, text.replace("#", "^" + (most + 1)));
        check.faulty(4, text.replace("#", "^9999"));
        if (least > 0) {
            check.faulty(4, text.replace("#", "^" + (least - 1)));
            check.faulty(4, text.replace("#", "^0000"));
        }
    }

    /** A number as told is what e sees: 10 times as much pulls what nothing rubs. */
    private static void seen(String unit, int number, String cordAndWalk) {
        check.promise(unit + " " + number + " is seen so");
        BowWalk x = check.right(1, "knot a over;tight 999;law l rub 0 pull " + unit + " * 10;" + cordAndWalk);
        x.tie(0, 0);
        check.due("walk(0, 1)", x.walk(0, 1), number);
    }

    private static void numbersOfCords() {
        numberIn("cord c smooth # weight 1 long 1;", 0, 99);
        numberIn("cord c smooth 1 weight # long 1;", 0, 99);
        numberIn("cord c smooth 1 weight 1 long #;", 1, 999);
        seen("smooth", 0, "cord c smooth 0 weight 5 long 5;walk w 5 5;");
        seen("smooth", 99, "cord c smooth 99 weight 5 long 5;walk w 5 5;");
        seen("weight", 0, "cord c smooth 5 weight 0 long 5;walk w 5 5;");
        seen("weight", 99, "cord c smooth 5 weight 99 long 5;walk w 5 5;");
        seen("long", 1, "cord c smooth 5 weight 5 long 1;walk w 5 5;");
        seen("long", 999, "cord c smooth 5 weight 5 long 999;walk w 5 5;");
    }

    private static void numbersOfWalks() {
        for (int before = 0; before < 8; before++) {
            numberIn("walk w" + times(before, " 5 5") + " # 5;", 0, 99);
            numberIn("walk w" + times(before, " 5 5") + " 5 #;", 0, 99);
        }
        seen("strike", 0, CORD + "walk w 0 5;");
        seen("strike", 99, CORD + "walk w 99 5;");
        seen("swing", 0, CORD + "walk w 5 0;");
        seen("swing", 99, CORD + "walk w 5 99;");
    }

    private static void numbersOfWants() {
        numberIn("want w holds # pull 5;", 1, 2000);
        numberIn("want w holds 5 pull #;", 0, 999);
    }

    private static void numbersOnceEach() {
        numberIn("tight #;", 1, 999);
        numberIn("luck #;", 0, 49);
        check.promise("tight, luck once each");
        check.faulty(2, "tight 5;^tight 5;");
        check.faulty(2, "luck 5;^luck 5;");
        check.faulty(2, "tight 5;luck 0;^luck 5;");
        check.faulty(2, "luck 0;tight 100;^tight 100;");
        // the word tight as a unit is no second one
        check.right(0, "tight 5;law a rub tight pull tight;luck 5;");
    }

    private static void untoldIs100And0() {
        check.promise("(100, 0 if not told)");
        String rest = "knot a over;" + CORD + "walk w 5 5;law l rub 0 pull 0;";
        BowWalk x = check.right(1, rest);
        x.tie(0, 0);
        check.due("tight", x.bow(10), 100);
        check.due("walk(0, 9)", x.walk(0, 9), 0);
        check.due("without luck nothing is drawn", x.about(8), 1);
        // neither an earlier SHOP nor a text with a FAULT tells it
        Check.tape(x, "tight 7;luck 9;" + rest);
        check.due("shop()", x.shop(), 1);
        x.tie(0, 0);
        check.due("tight", x.bow(10), 7);
        Check.tape(x, "tight 8;luck 8;;");
        check.due("shop()", x.shop(), -1);
        x.tie(0, 0);
        check.due("tight", x.bow(10), 7);
        x.end(0);
        Check.tape(x, rest);
        check.due("shop()", x.shop(), 1);
        x.tie(0, 0);
        check.due("tight", x.bow(10), 100);
        check.due("walk(0, 9)", x.walk(0, 9), 0);
        check.due("without luck nothing is drawn", x.about(8), 1);
    }

    private static void unitsInAll() {
        check.promise("3 LAWS (60 units in all); a 61st unit: at its first TOKEN");
        String most = "law a rub 0" + times(19, "+1") + " pull tight" + times(19, "*like") + ";law b rub 0" + times(17, "-long") + " pull ";
        check.due("about(9)", check.right(0, most + "1;").about(9), 59);
        check.due("about(9)", check.right(0, most + "1+1;").about(9), 60);
        check.due("( e ) is a unit", check.right(0, most + "(1);").about(9), 60);
        check.faulty(2, most + "1+1+^1;");
        check.faulty(2, most + "1+1*^like;");
        check.faulty(2, most + "1+1 or ^(1);");
        check.faulty(2, most + "1+1 and not ^1;");
        check.faulty(2, most + "1+1<^1;");
        check.faulty(2, most + "1+(^1);");
        check.faulty(2, most + "((^1));");
        check.faulty(2, most + "1+1;law c rub ^1 pull 1;");
        check.faulty(2, most + "1;law c rub 1 pull ^1;");
        // a NAME that can't be a unit, and no TOKEN, at the same place
        check.faulty(2, most + "1+1+^x;");
        check.faulty(1, most + "1+1+^$;");
        check.due("not is no unit", check.right(0, most + "not not 1+1;").about(9), 60);
    }

    private static void within6Others() {
        check.promise("a unit ( e ), or a one behind not, within 6 others at most; what is within 7 others: at its first TOKEN, or the not");
        check.right(0, "law a rub " + times(7, "(") + "1" + times(7, ")") + " pull 1;");
        check.faulty(2, "law a rub " + times(7, "(") + "^(1" + times(8, ")") + " pull 1;");
        check.right(0, "law a rub " + times(7, "not ") + "1 pull 1;");
        check.faulty(2, "law a rub " + times(7, "not ") + "^not 1 pull 1;");
        check.faulty(2, "law a rub " + times(7, "not ") + "^(1) pull 1;");
        check.faulty(2, "law a rub " + times(7, "(") + "^not 1" + times(7, ")") + " pull 1;");
        check.right(0, "law a rub " + times(3, "(not ") + "(1" + times(4, ")") + " pull 1;");
        check.faulty(2, "law a rub " + times(3, "(not ") + "(^not 1" + times(4, ")") + " pull 1;");
        check.faulty(2, "law a rub " + times(3, "not (") + "not ^(1" + times(4, ")") + " pull 1;");
        // the pull e, a later LAW and what stands beside it have a depth of their own
        check.right(0, "law a rub 1 pull " + times(7, "(") + "1" + times(7, ")") + ";");
        check.faulty(2, "law a rub 1 pull " + times(7, "(") + "^(1" + times(8, ")") + ";");
        check.right(0, "law a rub " + times(7, "not ") + "1 or " + times(7, "not ") + "1 pull " + times(7, "not ") + "1;");
        check.right(0, "law a rub " + times(6, "(") + "(1)+(1)*(1)<(1)" + times(6, ")") + " pull 1;");
        // within 7 units other than ( e ) need no look: they hold nothing
        check.right(0, "law a rub " + times(7, "(") + "1+2*tight<3 and 4 or 5" + times(7, ")") + " pull 1;");
    }

    private static void numberedAsTold() {
        check.promise("numbered as told");
        BowWalk x = check.right(3, "knot z over;walk z 1 0;knot m over over;cord z smooth 1 weight 1 long 11;walk a 2 0;"
                + "knot a over over over;cord a smooth 1 weight 1 long 22;law z rub 0 pull strike * 10;law a rub 0 pull 0;"
                + "want z holds 1 pull 999;want a holds 2000 pull 999;");
        for (int i = 0; i < 3; i++) {
            check.due("knot(" + i + ", 0)", x.knot(i, 0), i + 1);
        }
        x.tie(0, 1);
        check.due("CORD 1", x.bow(1), 22);
        check.due("WALK 1", x.walk(1, 1), 2);
        x.tie(0, 0);
        check.due("CORD 0", x.bow(1), 11);
        check.due("WALK 0", x.walk(0, 1), 1);
        check.due("LAW 0", x.holds(0, 0, 0, 0), 100);
        check.due("LAW 1", x.holds(0, 0, 0, 1), 2000);
        check.due("WANT 0", x.met(0, 0, 0, 0), 1);
        check.due("WANT 1", x.met(1, 0, 0, 0), 0);
    }

    // ---- Terms: FAULTS ----

    private static void faultFirstByPlace() {
        check.promise("FAULTS, the first by its place");
        check.faulty(4, "tight ^0;$");
        check.faulty(3, "knot a over;knot ^a over;tight 0;");
        check.faulty(2, "^over;tight 0;$");
        check.faulty(1, "^$;tight 0;over");
        check.faulty(4, "cord c smooth ^100 weight 100 long 0;");
        check.faulty(2, "knot a ^tight 0;");
        check.faulty(1, "tight 5;\n^?luck 50;");
        check.faulty(2, "law a rub 1 ^)+$ pull 1;");
    }

    private static void faultAtTheEnd() {
        check.promise("places: bytes from 0; the end: the text's length");
        check.faulty(1, "^$");
        check.faulty(1, " ^$");
        for (String line : LINES) {
            String[] tokens = line.split(" ");
            StringBuilder text = new StringBuilder();
            for (int i = 0; i + 1 < tokens.length; i++) {
                text.append(tokens[i]);
                check.faulty(2, text + "^");
                check.faulty(2, text + "\n ^");
                text.append(' ');
            }
        }
        check.faulty(2, "law a rub (1^");
        check.faulty(2, "law a rub not^");
        check.faulty(2, "law a rub 1+^");
        everyCutAndEveryByte();
    }

    /** A text of all sorts, cut at each byte, and with each byte in turn another one: as the Model reads it. */
    private static void everyCutAndEveryByte() {
        check.promise("FAULTS of a text cut, or with one byte changed");
        String text = "knot ab over under;knot b over;cord c smooth 10 weight 20 long 50;walk w 30 40 0 99;tight 30;luck 9;"
                + "law l rub tight * (2 - like) < 5 or not 7 pull 50/long;law m rub 0 and 1 pull 1000;want t holds 6 pull 30;";
        for (int n = 0; n <= text.length(); n++) {
            readAsModel(text.substring(0, n));
            readAsModel(text.substring(n));
            cutAsModel(text, n);
            for (char c : "az09;( \n)<$".toCharArray()) {
                readAsModel(text.substring(0, n) + c + text.substring(Math.min(n + 1, text.length())));
                readAsModel(text.substring(0, n) + c + text.substring(n));
            }
        }
    }

    private static void readAsModel(String text) {
        BowWalk x = new BowWalk();
        Check.tape(x, text);
        readAsModel(x, text);
    }

    /** What stood behind the cut is still there, and must not be seen. */
    private static void cutAsModel(String text, int n) {
        BowWalk x = new BowWalk();
        Check.tape(x, text);
        x.end(n);
        readAsModel(x, text.substring(0, n));
    }

    private static void readAsModel(BowWalk x, String text) {
        Model m = new Model();
        m.tape = text;
        int knots = m.shop();
        check.due("shop() of " + text, x.shop(), knots);
        check.due("fault(0) of " + text, x.fault(0), m.fault(0));
        check.due("fault(1) of " + text, x.fault(1), m.fault(1));
        for (int what = 0; what < 10; what++) {
            check.due("about(" + what + ") of " + text, x.about(what), m.about(what));
        }
    }

    private static void faultLeastAtOnePlace() {
        check.promise("at one place the least");
        String[] none = {"$", "abcdefghi", "12345", "100a"};
        for (String bad : none) {
            check.faulty(1, "knot a" + times(12, " over") + " ^" + bad + ";");
            check.faulty(1, "walk w" + times(8, " 0 0") + " ^" + bad + ";");
            check.faulty(1, "tight ^" + bad + ";");
            check.faulty(1, "knot ^" + bad + ";");
            check.faulty(1, "law a rub " + times(7, "(") + "^" + bad);
            check.faulty(1, "law a rub 0" + times(59, "+0") + "+^" + bad);
        }
        // 2 ahead of 4: a 9th strike that can't be
        check.faulty(2, "walk w" + times(8, " 0 0") + " ^9999 0;");
    }

    private static void faultAtTheLinesFirstWord() {
        check.promise("one of a sort too many, tight or luck a second time: at the line's first word");
        String[] full = {"knot a over;knot b over;knot c over;knot d over;knot e over;knot f over;^knot",
            CORD + CORD.replace("cord c", "cord d") + CORD.replace("cord c", "cord e") + CORD.replace("cord c", "cord f") + "^cord",
            "walk a 1 1;walk b 1 1;walk c 1 1;walk d 1 1;^walk", "law a rub 1 pull 1;law b rub 1 pull 1;law c rub 1 pull 1;^law",
            "want a holds 1 pull 1;want b holds 1 pull 1;want c holds 1 pull 1;want d holds 1 pull 1;^want",
            "tight 5;^tight", "luck 5;^luck"};
        for (String text : full) {
            // whatever is behind it: the end, a NAME told, no TOKEN, a number that can't be
            check.faulty(2, text);
            check.faulty(2, text + " a");
            check.faulty(2, text + " $");
            check.faulty(2, text + " 1000;");
        }
    }

    private static void namesOfTheirSort() {
        check.promise("3 a NAME told already (of its sort)");
        String[] lines = {"knot # over;", "cord # smooth 1 weight 1 long 1;", "walk # 1 1;", "law # rub 1 pull 1;",
            "want # holds 1 pull 1;"};
        for (String first : lines) {
            for (String second : lines) {
                if (first.equals(second)) {
                    check.faulty(3, first.replace("#", "same") + second.replace("#", "^same"));
                } else {
                    check.right(first.startsWith("k") || second.startsWith("k") ? 1 : 0,
                            first.replace("#", "same") + second.replace("#", "same"));
                }
            }
        }
        check.faulty(3, "knot a over;knot b over;knot c over;knot d over;knot e over;knot ^a");
        // names of an earlier SHOP, or of a text with a FAULT, are not told
        BowWalk x = check.right(1, "knot a over;");
        Check.tape(x, "knot a over;knot b over;$");
        check.due("shop()", x.shop(), -1);
        x.end(24);
        check.due("shop()", x.shop(), 2);
    }

    private static void namesAreTheirLetters() {
        check.promise("3 a NAME told already: the same letters, and no others");
        String[] letters = {"", "a", "b", "y", "z"};
        Set<String> names = new TreeSet<>();
        for (String a : letters) {
            for (String b : letters) {
                for (String c : letters) {
                    names.add(a + b + c);
                    names.add("zzzzz" + a + b + c);
                }
            }
        }
        names.remove("");
        for (String first : names) {
            for (String second : names) {
                BowWalk x = new BowWalk();
                Check.tape(x, "knot " + first + " over;knot " + second + " over;");
                check.due("NAMES " + first + ", " + second, x.shop(), first.equals(second) ? -1 : 2);
            }
        }
    }

    private static void lawsOfThisTextAlone() {
        check.promise("LAWS, units are those of this text, whatever was told ahead of it");
        String rest = "knot a over;tight 12;" + CORD + "walk w 5 5;";
        String sixty = "law a rub not not 0" + times(29, " or 0") + " pull not 1" + times(28, " and 1") + "+12;";
        BowWalk x = new BowWalk();
        for (int round = 0; round < 4; round++) {
            told(x, rest + sixty, 1, 60);
            check.due("0 is never above 0", x.holds(0, 0, 0, 0), 2000);
            told(x, rest + "law b rub 5 pull 15;law a rub 5 pull 45;", 2, 4);
            check.due("LAW 0", x.holds(0, 0, 0, 0), 12);
            check.due("LAW 1", x.holds(0, 0, 0, 1), 3);
            check.due("no LAW 2", x.holds(0, 0, 0, 2), -1);
            told(x, rest, 0, 0);
            // rub 12 - 5 - 1, pull 2 + 30 * 5 / 100
            check.due("the untold LAW", x.holds(0, 0, 0, 0), 2000);
            check.due("the untold LAW by hand", x.undone(0, 0), 20);
            Check.tape(x, sixty + "law c rub 1");
            check.due("a 61st unit", x.shop(), -1);
            x.end(0);
            told(x, rest + "law b rub 0 pull 40;", 1, 2);
            check.due("LAW 0", x.holds(0, 0, 0, 0), 3);
        }
    }

    private static void told(BowWalk x, String text, int laws, int units) {
        Check.tape(x, text);
        check.due("shop() of " + text, x.shop(), 1);
        check.due("LAWS of " + text, x.about(3), laws);
        check.due("units of " + text, x.about(9), units);
    }

    // ---- promises 1 to 6 ----

    private static void newObject() {
        check.promise("1: An empty SHOP, no BOW");
        BowWalk x = new BowWalk();
        for (int what = 0; what < 10; what++) {
            check.due("about(" + what + ")", x.about(what), what == 8 ? 1 : 0);
        }
        for (int what = 0; what <= 21; what++) {
            check.due("bow(" + what + ")", x.bow(what), -1);
        }
        check.due("knot(0, 0)", x.knot(0, 0), -1);
        for (int box = 0; box < 3; box++) {
            check.due("back(" + box + ")", x.back(box), -1);
        }
    }

    private static void feed() {
        check.promise("2: Twenty bytes come behind, of each number the highest first");
        byte[] text = "knot ab over;tight5;luck  49;  law b rub".getBytes(StandardCharsets.ISO_8859_1);
        BowWalk x = new BowWalk();
        check.due("feed", x.feed(0x6b6e6f74, 0x20616220, 0x6f766572, 0x3b746967, 0x6874353b), 20);
        int[] rest = Check.five(text, 20);
        check.due("feed", x.feed(rest[0], rest[1], rest[2], rest[3], rest[4]), 40);
        check.due("shop()", x.shop(), -1);
        check.due("fault(1)", x.fault(1), 40);
        check.due("end(29)", x.end(29), 29);
        check.due("shop()", x.shop(), 1);
        check.promise("2: bytes of any number come as they are");
        x = new BowWalk();
        check.due("feed", x.feed(-1, Integer.MIN_VALUE, Integer.MAX_VALUE, 0, 0x20ffffff), 20);
        check.due("shop()", x.shop(), -1);
        check.due("255 is no TOKEN", x.fault(0), 1);
        check.due("place", x.fault(1), 0);
        check.promise("2: NONE, and nothing comes, if there would be more than 1,600");
        x = new BowWalk();
        for (int n = 20; n <= 1600; n += 20) {
            check.due("feed", x.feed(0x20202020, 0x20202020, 0x20202020, 0x20202020, 0x20202020), n);
        }
        check.due("of 1620", x.feed(0x24242424, 0x24242424, 0x24242424, 0x24242424, 0x24242424), -1);
        check.due("about(7)", x.about(7), 1600);
        for (int n = 1599; n > 1580; n--) {
            check.due("end(" + n + ")", x.end(n), n);
            check.due("of " + (n + 20), x.feed(0x24242424, 0x24242424, 0x24242424, 0x24242424, 0x24242424), -1);
            check.due("about(7)", x.about(7), n);
        }
        check.due("end(1580)", x.end(1580), 1580);
        check.due("of 1600", x.feed(0x20202020, 0x20202020, 0x20202020, 0x20202020, 0x20202020), 1600);
        check.due("nothing had come", x.shop(), 0);
    }

    private static void end() {
        check.promise("3: The TAPE has its first n bytes: n; NONE, doing nothing, if it has not so many, or n is below 0");
        BowWalk x = new BowWalk();
        check.due("end(1) of an empty one", x.end(1), -1);
        check.due("end(0) of an empty one", x.end(0), 0);
        x.feed(0x6b6e6f74, 0x20616220, 0x6f766572, 0x3b746967, 0x6874353b);
        for (int n : new int[] {21, -1, 1600, Integer.MIN_VALUE, Integer.MAX_VALUE}) {
            check.due("end(" + n + ")", x.end(n), -1);
            check.due("about(7)", x.about(7), 20);
        }
        check.due("end(20)", x.end(20), 20);
        check.due("end(13)", x.end(13), 13);
        check.due("end(14)", x.end(14), -1);
        check.due("about(7)", x.about(7), 13);
        // what was cut off does not come back; the next bytes come behind the cut
        check.due("feed", x.feed(0x6b6e6f74, 0x20632020, 0x6f766572, 0x3b202020, 0x20202020), 33);
        check.due("shop()", x.shop(), 2);
        x.feed(0x6b6e6f74, 0x20616220, 0x6f766572, 0x3b746967, 0x6874353b);
        check.due("end(0)", x.end(0), 0);
        check.due("shop() of none", x.shop(), 0);
    }

    private static void shop() {
        check.promise("4: The TAPE (empty then) is the SHOP (no BOW, FILMS are none, BOXES are empty then; w, the TIME stay)");
        String text = "knot a over;" + CORD + "walk w 1 1;";
        BowWalk x = check.right(1, text);
        filled(x);
        Check.tape(x, "knot a over;knot b under;" + CORD + "walk w 1 1;");
        check.due("shop()", x.shop(), 2);
        check.due("the TAPE", x.about(7), 0);
        check.due("no BOW", x.bow(0), -1);
        check.due("no FILMS", x.about(5), 0);
        check.due("no FILM 0", x.began(0, 0), -1);
        check.due("untell(0)", x.untell(0), false);
        for (int box = 0; box < 3; box++) {
            check.due("BOX " + box, x.back(box), -1);
        }
        check.due("w", x.about(8), 77);
        check.due("the TIME", x.about(6), 5);
        check.due("the next FILM is 0", x.film(0, 0, 1, 0, 0), 0);
        check.due("it is not UNTOLD", x.untell(0), true);
        check.promise("4: how many KNOTS: none of an empty TAPE");
        filled(x);
        check.due("shop()", x.shop(), 0);
        check.due("no BOW", x.bow(0), -1);
        check.due("w", x.about(8), 77);
        check.promise("4: NONE: a FAULT (all stays)");
        x = check.right(1, text);
        filled(x);
        int walked = x.bow(4);
        Check.tape(x, "knot x over;knot y over;tight 1;cord b smooth 9 weight 9 long 9;law l rub 0 pull 0;knot x");
        check.due("shop()", x.shop(), -1);
        check.due("shop() again", x.shop(), -1);
        int[] about = {1, 1, 1, 0, 0, 1, 5, 89, 77, 0};
        for (int what = 0; what < 10; what++) {
            check.due("about(" + what + ")", x.about(what), about[what]);
        }
        check.due("the BOW", x.bow(4), walked);
        check.due("the FILM", x.untell(0), false);
        for (int box = 0; box < 3; box++) {
            check.due("BOX " + box, x.back(box), 1);
        }
    }

    private static void filled(BowWalk x) {
        x.tie(0, 0);
        x.walk(0, 1);
        x.later(5 - x.about(6));
        x.seed(77);
        x.image(0);
        x.image(1);
        x.image(2);
        x.film(0, 0, 1, 5, 5);
        x.untell(0);
    }

    private static void fault() {
        check.promise("5: Of the latest shop() what 0: its FAULT (0), 1: its place (NONE). NONE for another what");
        BowWalk x = new BowWalk();
        int[] others = {-1, 2, 3, Integer.MIN_VALUE, Integer.MAX_VALUE};
        check.due("of none: 0", x.fault(0), 0);
        check.due("of none: NONE", x.fault(1), -1);
        Check.tape(x, "tight 0;");
        check.due("not of a TAPE that is not read", x.fault(0), 0);
        x.shop();
        check.due("fault(0)", x.fault(0), 4);
        check.due("fault(1)", x.fault(1), 6);
        for (int what : others) {
            check.due("fault(" + what + ")", x.fault(what), -1);
        }
        x.end(0);
        check.due("it stays till the next shop()", x.fault(0), 4);
        check.due("shop()", x.shop(), 0);
        check.due("without one: 0", x.fault(0), 0);
        check.due("without one: NONE", x.fault(1), -1);
        for (int what : others) {
            check.due("fault(" + what + ")", x.fault(what), -1);
        }
    }

    private static void knot() {
        check.promise("6: NONE if there is none such, or for another what");
        BowWalk x = check.right(6, "knot a under;knot b over;knot c under under;knot d over under;knot e" + times(12, " under")
                + ";knot f" + times(6, " over under") + ";");
        int[][] due = {{1, 1, 0}, {1, 0, 0}, {2, 3, 1}, {2, 2, 0}, {12, 4095, 11}, {12, 2730, 0}};
        for (int knot = 0; knot < 6; knot++) {
            for (int what = 0; what < 3; what++) {
                check.due("knot(" + knot + ", " + what + ")", x.knot(knot, what), due[knot][what]);
            }
            for (int what : new int[] {-1, 3, Integer.MIN_VALUE, Integer.MAX_VALUE}) {
                check.due("knot(" + knot + ", " + what + ")", x.knot(knot, what), -1);
            }
        }
        for (int knot : new int[] {-1, 6, 7, Integer.MIN_VALUE, Integer.MAX_VALUE}) {
            check.due("knot(" + knot + ", 0)", x.knot(knot, 0), -1);
        }
        x.shop();
        check.due("of an empty SHOP", x.knot(0, 0), -1);
    }
}
