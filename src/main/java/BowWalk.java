/**
 * Laces that come undone: a SHOP of knots, cords, walks, laws and wants told in a text, a BOW that is
 * tied and walked, and what can be asked of all of them. The document is ../shared/DOC.md.
 */
public final class BowWalk {
    public static final int NONE = -1;

    private static final int NO_WORSE = -10000;
    private static final int BYTES_MOST = 1600;
    private static final int BYTES_A_FEED = 20;
    private static final int BOXES = 3;
    private static final int CALL_STEPS_MOST = 500;
    private static final int BOW_STEPS_MOST = 100000;
    private static final int HOLDS_MOST = 2000;
    private static final int PULL_MOST = 999;
    private static final int ENDS_MOST = 990;
    private static final int BEST_CROSSINGS_MOST = 6;
    private static final int NOTHING_UNDOES = 1000;
    private static final int LENGTH_MOST = 29999;
    private static final int OFF_MOST = 999;
    private static final int LATER_MOST = 1000;
    private static final int TIME_MOST = 100000;

    private final byte[] tape = new byte[BYTES_MOST];
    private final Reader reader = new Reader();
    private final Bow bow = new Bow();
    private final Trial trial = new Trial();
    private final Films films = new Films();
    private final Box[] boxes = new Box[BOXES];
    private final int[] lengths = new int[Shop.PAIRS_MOST];
    private final int[] held = new int[Shop.KNOTS_MOST];
    private final int[] opened = new int[Shop.KNOTS_MOST];
    private Shop shop = new Shop();
    private int tapeLength = 0;
    private boolean tied = false;
    private int w = 1;
    private int time = 0;

    public BowWalk() {
        for (int i = 0; i < BOXES; i++) {
            boxes[i] = new Box();
        }
    }

    // ---- the text ----

    public int feed(int a, int b, int c, int d, int e) {
        if (tapeLength + BYTES_A_FEED > BYTES_MOST) {
            return NONE;
        }
        putBytes(a);
        putBytes(b);
        putBytes(c);
        putBytes(d);
        putBytes(e);
        return tapeLength;
    }

    private void putBytes(int four) {
        for (int shift = 24; shift >= 0 && tapeLength < BYTES_MOST; shift -= 8) {
            tape[tapeLength] = (byte) (four >>> shift);
            tapeLength++;
        }
    }

    public int end(int n) {
        if (n < 0 || n > tapeLength) {
            return NONE;
        }
        tapeLength = n;
        return n;
    }

    public int shop() {
        if (!reader.readShop(tape, tapeLength)) {
            return NONE;
        }
        // the SHOP before is the next draft, so that no call makes a new one
        Shop old = shop;
        shop = reader.draft;
        reader.draft = old;
        tapeLength = 0;
        tied = false;
        films.count = 0;
        for (int i = 0; i < BOXES; i++) {
            boxes[i].full = false;
        }
        return shop.count[Shop.KNOTS];
    }

    public int fault(int what) {
        if (what == 0) {
            return reader.faultKind;
        }
        return what == 1 ? reader.faultPlace : NONE;
    }

    public int knot(int knot, int what) {
        if (!shop.has(Shop.KNOTS, knot)) {
            return NONE;
        }
        switch (what) {
            case 0:
                return shop.crossings[knot];
            case 1:
                return shop.sides[knot];
            case 2:
                return Integer.bitCount(Bow.likeBits(shop.crossings[knot], shop.sides[knot]));
            default:
                return NONE;
        }
    }

    // ---- the bow ----

    public int tie(int knot, int cord) {
        if (!shop.has(Shop.KNOTS, knot) || !shop.has(Shop.CORDS, cord)) {
            return NONE;
        }
        bow.takeKnot(shop.crossings[knot], shop.sides[knot]);
        bow.takeCord(shop.smooth[cord], shop.weight[cord], shop.length[cord]);
        bow.begin(shop.once[Shop.TIGHT]);
        tied = true;
        return bow.left;
    }

    public int walk(int walk, int steps) {
        if (!tied || !shop.has(Shop.WALKS, walk) || !within(steps, 0, CALL_STEPS_MOST)) {
            return NONE;
        }
        if (bow.steps + steps > BOW_STEPS_MOST) {
            return NONE;
        }
        int all = 0;
        for (int i = 0; i < steps && bow.left > 0; i++) {
            all += stepInEarnest(walk);
        }
        return all;
    }

    private int stepInEarnest(int walk) {
        int at = bow.walk == walk ? bow.nextStep : 0;
        int swing = shop.swings[walk][at];
        int luck = shop.once[Shop.LUCK];
        if (luck != 0) {
            swing = Math.max(0, swing + draw(2 * luck + 1) - luck);
        }
        bow.walk = walk;
        bow.nextStep = at + 1 < shop.steps[walk] ? at + 1 : 0;
        bow.steps++;
        return bow.goStep(shop.laws, 0, shop.strikes[walk][at], swing);
    }

    private int draw(int n) {
        w = w * 1103515245 + 12345;
        return n > 0 ? (w >>> 16) % n : 0;
    }

    public int pull(int p) {
        if (!tied || bow.left == 0 || !within(p, 0, PULL_MOST)) {
            return NONE;
        }
        return bow.pullByHand(shop.laws, p);
    }

    public int bow(int what) {
        if (!tied) {
            return NONE;
        }
        switch (what) {
            case 0:
                return bow.left;
            case 1:
                return bow.ends[Bow.OVER_SIDE];
            case 2:
                return bow.ends[Bow.UNDER_SIDE];
            case 3:
                return bow.steps;
            case 4:
                return bow.slipped;
            default:
                return within(what, 10, 9 + bow.crossings) ? bow.tight[what - 10] : NONE;
        }
    }

    // ---- how long it holds ----

    public int holds(int knot, int cord, int walk, int law) {
        if (!canTry(knot, cord, walk) || !within(law, 0, shop.lawsAsked() - 1)) {
            return NONE;
        }
        prepare(knot, cord, walk, law);
        return trial.stepsHeld(shop);
    }

    public int begins(int knot, int cord, int walk) {
        if (!canTry(knot, cord, walk)) {
            return NONE;
        }
        prepare(knot, cord, walk, 0);
        return trial.firstFeedingStep(shop);
    }

    public int alone(int knot, int cord, int walk, int what) {
        if (!canTry(knot, cord, walk) || !within(what, 0, 1)) {
            return NONE;
        }
        prepare(knot, cord, walk, 0);
        trial.lessen(what == 0 ? trial.swings : trial.strikes, Shop.STEP_MOST);
        return trial.stepsHeld(shop);
    }

    public int undone(int knot, int cord) {
        if (!shop.has(Shop.KNOTS, knot) || !shop.has(Shop.CORDS, cord)) {
            return NONE;
        }
        prepareStill(knot, cord);
        return trial.leastOpeningPull(shop);
    }

    // ---- what is wanted ----

    public int met(int want, int knot, int cord, int walk) {
        if (!shop.has(Shop.WANTS, want) || !canTry(knot, cord, walk)) {
            return NONE;
        }
        return isMet(want, knot, cord, walk) ? 1 : 0;
    }

    public int meets(int want, int cord, int walk) {
        if (!shop.has(Shop.WANTS, want) || !canWalkIn(cord, walk)) {
            return NONE;
        }
        int bits = 0;
        for (int knot = 0; knot < shop.count[Shop.KNOTS]; knot++) {
            bits |= isMet(want, knot, cord, walk) ? 1 << knot : 0;
        }
        return bits;
    }

    private boolean isMet(int want, int knot, int cord, int walk) {
        prepare(knot, cord, walk, 0);
        if (trial.stepsHeld(shop) < shop.wantHolds[want]) {
            return false;
        }
        int p = trial.leastOpeningPull(shop);
        return p != NONE && p <= shop.wantPull[want];
    }

    public int odds(int knot, int n, int part) {
        int all = shop.count[Shop.CORDS] * shop.count[Shop.WALKS];
        if (!shop.has(Shop.KNOTS, knot) || all == 0 || !within(n, 1, HOLDS_MOST) || !within(part, 0, 1)) {
            return NONE;
        }
        int good = 0;
        for (int cord = 0; cord < shop.count[Shop.CORDS]; cord++) {
            for (int walk = 0; walk < shop.count[Shop.WALKS]; walk++) {
                prepare(knot, cord, walk, 0);
                good += trial.stepsHeld(shop) >= n ? 1 : 0;
            }
        }
        int divisor = greatestDivisor(good, all);
        return (part == 0 ? good : all) / divisor;
    }

    private static int greatestDivisor(int a, int b) {
        for (int d = b; d > 1; d--) {
            if (a % d == 0 && b % d == 0) {
                return d;
            }
        }
        return 1;
    }

    // ---- other knots, other cords, other walks ----

    public int worse(int knot, int cord, int walk, int crossing) {
        if (!canTry(knot, cord, walk) || !within(crossing, 0, shop.crossings[knot] - 1)) {
            return NO_WORSE;
        }
        prepare(knot, cord, walk, 0);
        return trial.stepsHeld(shop) - stepsHeldTurned(knot, crossing);
    }

    public int which(int knot, int cord, int walk) {
        if (!canTry(knot, cord, walk)) {
            return NONE;
        }
        prepare(knot, cord, walk, 0);
        int first = 0;
        int least = stepsHeldTurned(knot, 0);
        for (int i = 1; i < shop.crossings[knot]; i++) {
            int steps = stepsHeldTurned(knot, i);
            if (steps < least) {
                least = steps;
                first = i;
            }
        }
        return first;
    }

    private int stepsHeldTurned(int knot, int crossing) {
        trial.bow.takeKnot(shop.crossings[knot], shop.sides[knot] ^ (1 << crossing));
        return trial.stepsHeld(shop);
    }

    public int best(int n, int cord, int walk, int p, int what) {
        if (!within(n, 1, BEST_CROSSINGS_MOST) || !canWalkIn(cord, walk)) {
            return NONE;
        }
        if (!within(p, 0, PULL_MOST) || !within(what, 0, 2)) {
            return NONE;
        }
        prepareWalk(cord, walk);
        int bestSides = NONE;
        int bestSteps = NONE;
        int bestPull = NONE;
        for (int sides = 0; sides < 1 << n; sides += 2) {
            trial.bow.takeKnot(n, sides);
            int steps = trial.stepsHeld(shop);
            int opening = steps > bestSteps ? trial.leastOpeningPull(shop) : NONE;
            if (opening != NONE && opening <= p) {
                bestSides = sides;
                bestSteps = steps;
                bestPull = opening;
            }
        }
        if (what == 0) {
            return bestSides;
        }
        return what == 1 ? bestSteps : bestPull;
    }

    public int both(int cord, int walk) {
        if (!canWalkIn(cord, walk)) {
            return NONE;
        }
        int knots = shop.count[Shop.KNOTS];
        for (int knot = 0; knot < knots; knot++) {
            prepare(knot, cord, walk, 0);
            held[knot] = trial.stepsHeld(shop);
            int p = trial.leastOpeningPull(shop);
            opened[knot] = p == NONE ? NOTHING_UNDOES : p;
        }
        int bits = 0;
        for (int knot = 0; knot < knots; knot++) {
            bits |= isOutdone(knot, knots) ? 0 : 1 << knot;
        }
        return bits;
    }

    private boolean isOutdone(int knot, int knots) {
        for (int other = 0; other < knots; other++) {
            boolean noWorse = held[other] >= held[knot] && opened[other] <= opened[knot];
            if (noWorse && (held[other] > held[knot] || opened[other] < opened[knot])) {
                return true;
            }
        }
        return false;
    }

    public int ends(int knot, int cord, int walk, int n) {
        if (!canTry(knot, cord, walk) || !within(n, 1, HOLDS_MOST)) {
            return NONE;
        }
        prepare(knot, cord, walk, 0);
        for (int length = 10; length <= ENDS_MOST; length += 10) {
            trial.bow.takeCord(shop.smooth[cord], shop.weight[cord], length);
            if (trial.stepsHeld(shop) < n) {
                return length;
            }
        }
        return NONE;
    }

    public int change(int knot, int cord, int walk, int n, int what) {
        if (!canTry(knot, cord, walk) || !within(n, 1, HOLDS_MOST) || !within(what, 0, 1)) {
            return NONE;
        }
        prepare(knot, cord, walk, 0);
        int[] row = what == 0 ? trial.swings : trial.strikes;
        // once all are 0, a greater d changes nothing more
        int most = trial.greatest(row);
        for (int d = 0; d <= most; d++) {
            if (trial.stepsHeld(shop) >= n) {
                return d;
            }
            trial.lessen(row, 1);
        }
        return NONE;
    }

    // ---- films ----

    public int film(int knot, int walk, int steps, int length, int off) {
        if (films.count >= Films.MOST || !shop.has(Shop.KNOTS, knot) || !shop.has(Shop.WALKS, walk)) {
            return NONE;
        }
        if (!within(steps, 1, CALL_STEPS_MOST) || !within(length, 0, LENGTH_MOST) || !within(off, 0, OFF_MOST)) {
            return NONE;
        }
        int number = films.tell(knot, walk, steps, time);
        // a SHOP stays as it is as long as its FILMS do, so what lets one is asked only once
        films.lets[number] = pairsThatLet(number, length, off);
        return number;
    }

    private int pairsThatLet(int film, int length, int off) {
        int bits = 0;
        for (int pair = 0; pair < Shop.PAIRS_MOST; pair++) {
            if (shop.hasPair(pair)) {
                preparePair(films.knot[film], films.walk[film], pair);
                int apart = trial.endsBehind(shop, films.steps[film]) - length;
                bits |= Math.abs(apart) <= off ? 1 << pair : 0;
            }
        }
        return bits;
    }

    public boolean untell(int film) {
        if (!within(film, 0, films.count - 1) || films.untold[film]) {
            return false;
        }
        films.untold[film] = true;
        films.untoldAt[film] = time;
        return true;
    }

    public int later(int by) {
        if (!within(by, 0, LATER_MOST) || time + by > TIME_MOST) {
            return NONE;
        }
        time += by;
        return time;
    }

    public int fits(int k) {
        int bits = 0;
        for (int pair = 0; pair < Shop.PAIRS_MOST; pair++) {
            bits |= shop.hasPair(pair) ? 1 << pair : 0;
        }
        for (int film = 0; film < films.count; film++) {
            if (films.counts(film, k)) {
                bits &= films.lets[film];
            }
        }
        return bits;
    }

    public int parts(int knot, int steps, int what, int k) {
        if (!shop.has(Shop.KNOTS, knot) || !within(steps, 1, CALL_STEPS_MOST) || !within(what, 0, 1)) {
            return NONE;
        }
        int pairs = fits(k);
        int first = NONE;
        int most = 0;
        for (int walk = 0; walk < shop.count[Shop.WALKS]; walk++) {
            int unlike = unlikeLengths(knot, walk, steps, pairs);
            if (unlike > most) {
                most = unlike;
                first = walk;
            }
        }
        if (first == NONE) {
            return NONE;
        }
        return what == 0 ? first : most;
    }

    private int unlikeLengths(int knot, int walk, int steps, int pairs) {
        int unlike = 0;
        for (int pair = 0; pair < Shop.PAIRS_MOST; pair++) {
            if ((pairs >> pair & 1) == 1) {
                preparePair(knot, walk, pair);
                int length = trial.endsBehind(shop, steps);
                if (!isAmong(length, unlike)) {
                    lengths[unlike] = length;
                    unlike++;
                }
            }
        }
        return unlike;
    }

    private boolean isAmong(int length, int known) {
        for (int i = 0; i < known; i++) {
            if (lengths[i] == length) {
                return true;
            }
        }
        return false;
    }

    public int began(int film, int pair) {
        if (!within(film, 0, films.count - 1) || !shop.hasPair(pair)) {
            return NONE;
        }
        preparePair(films.knot[film], films.walk[film], pair);
        return trial.firstSlippingStep(shop, films.steps[film]);
    }

    // ---- luck, images, counts ----

    public int seed(int w) {
        int was = this.w;
        this.w = w;
        return was;
    }

    public int image(int box) {
        if (!tied || !within(box, 0, BOXES - 1)) {
            return NONE;
        }
        boxes[box].full = true;
        boxes[box].w = w;
        boxes[box].bow.copyFrom(bow);
        return bow.left;
    }

    public int back(int box) {
        if (!within(box, 0, BOXES - 1) || !boxes[box].full) {
            return NONE;
        }
        w = boxes[box].w;
        bow.copyFrom(boxes[box].bow);
        tied = true;
        return bow.left;
    }

    public int about(int what) {
        switch (what) {
            case 0:
            case 1:
            case 2:
            case 3:
            case 4:
                return shop.count[what];
            case 5:
                return films.count;
            case 6:
                return time;
            case 7:
                return tapeLength;
            case 8:
                return w;
            case 9:
                return shop.laws.units;
            default:
                return NONE;
        }
    }

    // ---- what several calls share ----

    private static boolean within(int n, int least, int most) {
        return n >= least && n <= most;
    }

    private boolean canTry(int knot, int cord, int walk) {
        return shop.has(Shop.KNOTS, knot) && canWalkIn(cord, walk);
    }

    private boolean canWalkIn(int cord, int walk) {
        return shop.has(Shop.CORDS, cord) && shop.has(Shop.WALKS, walk);
    }

    private void prepare(int knot, int cord, int walk, int law) {
        prepareStill(knot, cord);
        trial.takeWalk(shop, walk);
        trial.law = law;
    }

    private void prepareStill(int knot, int cord) {
        trial.bow.takeKnot(shop.crossings[knot], shop.sides[knot]);
        trial.bow.takeCord(shop.smooth[cord], shop.weight[cord], shop.length[cord]);
    }

    private void prepareWalk(int cord, int walk) {
        trial.bow.takeCord(shop.smooth[cord], shop.weight[cord], shop.length[cord]);
        trial.takeWalk(shop, walk);
        trial.law = 0;
    }

    private void preparePair(int knot, int walk, int pair) {
        prepare(knot, pair % Shop.CORDS_MOST, walk, pair / Shop.CORDS_MOST);
    }

    /** What a text told. */
    private static final class Shop {
        static final int KNOTS = 0;
        static final int CORDS = 1;
        static final int WALKS = 2;
        static final int LAWS = 3;
        static final int WANTS = 4;
        static final int SORTS = 5;

        static final int TIGHT = 0;
        static final int LUCK = 1;

        static final int KNOTS_MOST = 6;
        static final int CORDS_MOST = 4;
        static final int WALKS_MOST = 4;
        static final int LAWS_MOST = 3;
        static final int WANTS_MOST = 4;
        static final int CROSSINGS_MOST = 12;
        static final int STEPS_MOST = 8;
        static final int STEP_MOST = 99;
        static final int PAIRS_MOST = LAWS_MOST * CORDS_MOST;
        static final int TIGHT_UNTOLD = 100;
        static final int LUCK_UNTOLD = 0;

        final int[] count = new int[SORTS];
        final long[][] names = new long[SORTS][KNOTS_MOST];
        final int[] crossings = new int[KNOTS_MOST];
        final int[] sides = new int[KNOTS_MOST];
        final int[] smooth = new int[CORDS_MOST];
        final int[] weight = new int[CORDS_MOST];
        final int[] length = new int[CORDS_MOST];
        final int[] steps = new int[WALKS_MOST];
        final int[][] strikes = new int[WALKS_MOST][STEPS_MOST];
        final int[][] swings = new int[WALKS_MOST][STEPS_MOST];
        final int[] wantHolds = new int[WANTS_MOST];
        final int[] wantPull = new int[WANTS_MOST];
        final Laws laws = new Laws();
        /** What is told once at most: TIGHT, LUCK. */
        final int[] once = {TIGHT_UNTOLD, LUCK_UNTOLD};
        final boolean[] onceTold = new boolean[2];

        void clear() {
            for (int sort = 0; sort < SORTS; sort++) {
                count[sort] = 0;
            }
            laws.clear();
            once[TIGHT] = TIGHT_UNTOLD;
            once[LUCK] = LUCK_UNTOLD;
            onceTold[TIGHT] = false;
            onceTold[LUCK] = false;
        }

        static int most(int sort) {
            switch (sort) {
                case KNOTS:
                    return KNOTS_MOST;
                case CORDS:
                    return CORDS_MOST;
                case WALKS:
                    return WALKS_MOST;
                case LAWS:
                    return LAWS_MOST;
                default:
                    return WANTS_MOST;
            }
        }

        boolean has(int sort, int number) {
            return number >= 0 && number < count[sort];
        }

        /** LAWS that can be asked: the one that nobody told, too. */
        int lawsAsked() {
            return Math.max(1, count[LAWS]);
        }

        boolean hasPair(int pair) {
            return pair >= 0 && pair / CORDS_MOST < lawsAsked() && has(CORDS, pair % CORDS_MOST);
        }

        boolean isNamed(int sort, long name) {
            for (int i = 0; i < count[sort]; i++) {
                if (names[sort][i] == name) {
                    return true;
                }
            }
            return false;
        }
    }

    /** TOKENS as numbers: a sign is its own byte, the others stand here. */
    private static final class Token {
        static final int END = 0;
        static final int BAD = 1;
        static final int NAME = 2;
        static final int NUMBER = 3;

        static final int KNOT = 256;
        static final int CORD = 257;
        static final int WALK = 258;
        static final int LAW = 259;
        static final int WANT = 260;
        static final int TIGHT = 261;
        static final int LIKE = 262;
        static final int PLACE = 263;
        static final int SMOOTH = 264;
        static final int WEIGHT = 265;
        static final int LONG = 266;
        static final int STRIKE = 267;
        static final int SWING = 268;
        static final int LUCK = 269;
        static final int OVER = 270;
        static final int UNDER = 271;
        static final int RUB = 272;
        static final int PULL = 273;
        static final int HOLDS = 274;
        static final int OR = 275;
        static final int AND = 276;
        static final int NOT = 277;

        static final int FIRST_WORD = KNOT;
        static final int WORDS = 22;
        /** The words that stand for themselves, in the order of their numbers, a blank behind each. */
        static final String SPELT =
                "knot cord walk law want tight like place smooth weight long strike swing luck over under rub pull holds or and not ";
        static final String SIGNS = ";()<>=+-*/";
        static final int LETTERS_MOST = 8;
        static final int DIGITS_MOST = 4;

        static boolean isUnitWord(int token) {
            return token >= TIGHT && token <= SWING;
        }
    }

    /** The LAWS: each e as a row of TOKENS, operands ahead of what joins them. */
    private static final class Laws {
        static final int UNITS_MOST = 60;
        static final int WITHIN_MOST = 6;
        /** A number N stands in a row as N and this, above all TOKENS. */
        static final int NUMBERS_FROM = 1000;
        /** 60 units, 59 signs between them, and 7 times not ahead of each one are less. */
        static final int CODE_MOST = 600;

        static final int[] UNTOLD_RUB = {Token.TIGHT, Token.STRIKE, '-', Token.SMOOTH, '-'};
        static final int[] UNTOLD_PULL = {
            Token.WEIGHT, Token.LONG, Token.SWING, '*', NUMBERS_FROM + 100, '/', '+'};

        private final int[] code = new int[CODE_MOST];
        private final int[] behind = new int[2 * Shop.LAWS_MOST];
        private final int[] stack = new int[UNITS_MOST];
        private int used = 0;
        private int rows = 0;
        int units = 0;

        void clear() {
            used = 0;
            rows = 0;
            units = 0;
        }

        boolean put(int token) {
            if (used >= CODE_MOST) {
                return false;
            }
            code[used] = token;
            used++;
            return true;
        }

        boolean endRow() {
            if (rows >= behind.length) {
                return false;
            }
            behind[rows] = used;
            rows++;
            return true;
        }

        /** The LAW that goes where none is told; its units don't count. */
        void putUntold() {
            for (int i = 0; i < UNTOLD_RUB.length; i++) {
                put(UNTOLD_RUB[i]);
            }
            endRow();
            for (int i = 0; i < UNTOLD_PULL.length; i++) {
                put(UNTOLD_PULL[i]);
            }
            endRow();
        }

        /** Row 2 * law is its rub e, the one behind that its pull e. */
        int ask(int row, Bow bow, int crossing) {
            if (row < 0 || row >= rows) {
                return 0;
            }
            int top = 0;
            for (int at = row == 0 ? 0 : behind[row - 1]; at < behind[row]; at++) {
                int token = code[at];
                boolean isNumber = token >= NUMBERS_FROM;
                if (isNumber || Token.isUnitWord(token)) {
                    if (top < UNITS_MOST) {
                        stack[top] = isNumber ? token - NUMBERS_FROM : bow.tell(token, crossing);
                        top++;
                    }
                } else if (token == Token.NOT) {
                    if (top > 0) {
                        stack[top - 1] = stack[top - 1] == 0 ? 1 : 0;
                    }
                } else if (top > 1) {
                    top--;
                    stack[top - 1] = join(token, stack[top - 1], stack[top]);
                }
            }
            return stack[0];
        }

        private static int join(int token, int a, int b) {
            switch (token) {
                case '+':
                    return a + b;
                case '-':
                    return a - b;
                case '*':
                    return a * b;
                case '/':
                    return b == 0 ? 0 : a / b;
                case '<':
                    return a < b ? 1 : 0;
                case '>':
                    return a > b ? 1 : 0;
                case '=':
                    return a == b ? 1 : 0;
                case Token.AND:
                    return a != 0 && b != 0 ? 1 : 0;
                default:
                    return a != 0 || b != 0 ? 1 : 0;
            }
        }
    }

    /** Reads a text into a draft of a SHOP; the first FAULT ends it. */
    private static final class Reader {
        static final int NO_TOKEN = 1;
        static final int CANT_STAND = 2;
        static final int TOLD_ALREADY = 3;
        static final int CANT_BE = 4;

        private final long[] words = new long[Token.WORDS];
        private byte[] text = new byte[0];
        private int length = 0;
        private int at = 0;
        private int token = Token.END;
        private int place = 0;
        private int number = 0;
        private long word = 0;
        Shop draft = new Shop();
        int faultKind = 0;
        int faultPlace = NONE;

        Reader() {
            int n = 0;
            for (int i = 0; i < Token.SPELT.length() && n < Token.WORDS; i++) {
                char c = Token.SPELT.charAt(i);
                if (c == ' ') {
                    n++;
                } else {
                    words[n] = withLetter(words[n], c);
                }
            }
        }

        boolean readShop(byte[] bytes, int n) {
            text = bytes;
            length = Math.min(n, bytes.length);
            at = 0;
            faultKind = 0;
            faultPlace = NONE;
            draft.clear();
            step();
            for (int lines = 0; lines <= length && token != Token.END; lines++) {
                if (!readLine()) {
                    return false;
                }
            }
            if (draft.count[Shop.LAWS] == 0) {
                draft.laws.putUntold();
            }
            return true;
        }

        /** What is at one place is the least: no TOKEN, if there is none. */
        private boolean refuse(int kind) {
            faultKind = token == Token.BAD ? NO_TOKEN : kind;
            faultPlace = place;
            return false;
        }

        // -- tokens --

        private void step() {
            while (at < length && isBlank(text[at])) {
                at++;
            }
            place = at;
            if (at >= length) {
                token = Token.END;
            } else if (isLetter(text[at])) {
                stepOverWord();
            } else if (isDigit(text[at])) {
                stepOverNumber();
            } else if (isSign(text[at])) {
                token = text[at];
                at++;
            } else {
                token = Token.BAD;
            }
        }

        private void stepOverWord() {
            word = 0;
            while (at < length && isLetter(text[at])) {
                if (at - place < Token.LETTERS_MOST) {
                    word = withLetter(word, text[at]);
                }
                at++;
            }
            token = at - place > Token.LETTERS_MOST ? Token.BAD : wordToken();
        }

        private int wordToken() {
            for (int i = 0; i < Token.WORDS; i++) {
                if (words[i] == word) {
                    return Token.FIRST_WORD + i;
                }
            }
            return Token.NAME;
        }

        private void stepOverNumber() {
            number = 0;
            while (at < length && isDigit(text[at])) {
                if (at - place < Token.DIGITS_MOST) {
                    number = 10 * number + text[at] - '0';
                }
                at++;
            }
            boolean letterBehind = at < length && isLetter(text[at]);
            token = at - place > Token.DIGITS_MOST || letterBehind ? Token.BAD : Token.NUMBER;
        }

        private static long withLetter(long letters, int c) {
            return 27 * letters + (c - 'a' + 1);
        }

        private static boolean isBlank(int c) {
            return c == 32 || c == 10;
        }

        private static boolean isLetter(int c) {
            return c >= 'a' && c <= 'z';
        }

        private static boolean isDigit(int c) {
            return c >= '0' && c <= '9';
        }

        private static boolean isSign(int c) {
            for (int i = 0; i < Token.SIGNS.length(); i++) {
                if (Token.SIGNS.charAt(i) == c) {
                    return true;
                }
            }
            return false;
        }

        private boolean take(int wanted) {
            if (token != wanted) {
                return refuse(CANT_STAND);
            }
            step();
            return true;
        }

        private boolean takeInto(int[] row, int i, int least, int most) {
            if (token != Token.NUMBER) {
                return refuse(CANT_STAND);
            }
            if (number < least || number > most) {
                return refuse(CANT_BE);
            }
            row[i] = number;
            step();
            return true;
        }

        // -- lines --

        private boolean readLine() {
            switch (token) {
                case Token.KNOT:
                    return beginNamed(Shop.KNOTS) && readSides(draft.count[Shop.KNOTS]) && endNamed(Shop.KNOTS);
                case Token.CORD:
                    return beginNamed(Shop.CORDS) && readCord(draft.count[Shop.CORDS]) && endNamed(Shop.CORDS);
                case Token.WALK:
                    return beginNamed(Shop.WALKS) && readSteps(draft.count[Shop.WALKS]) && endNamed(Shop.WALKS);
                case Token.LAW:
                    // written out here: the calls below an e go deep enough
                    return beginNamed(Shop.LAWS)
                            && take(Token.RUB) && readAny(0) && draft.laws.endRow()
                            && take(Token.PULL) && readAny(0) && draft.laws.endRow()
                            && endNamed(Shop.LAWS);
                case Token.WANT:
                    return beginNamed(Shop.WANTS) && readWant(draft.count[Shop.WANTS]) && endNamed(Shop.WANTS);
                case Token.TIGHT:
                    return readOnce(Shop.TIGHT, 1, 999);
                case Token.LUCK:
                    return readOnce(Shop.LUCK, 0, 49);
                default:
                    return refuse(CANT_STAND);
            }
        }

        private boolean beginNamed(int sort) {
            int i = draft.count[sort];
            if (i >= Shop.most(sort)) {
                return refuse(CANT_STAND);
            }
            step();
            if (token != Token.NAME) {
                return refuse(CANT_STAND);
            }
            if (draft.isNamed(sort, word)) {
                return refuse(TOLD_ALREADY);
            }
            draft.names[sort][i] = word;
            step();
            return true;
        }

        private boolean endNamed(int sort) {
            draft.count[sort]++;
            return take(';');
        }

        private boolean readSides(int knot) {
            int crossings = 0;
            int sides = 0;
            while (crossings < Shop.CROSSINGS_MOST && (token == Token.OVER || token == Token.UNDER)) {
                sides |= token == Token.UNDER ? 1 << crossings : 0;
                crossings++;
                step();
            }
            draft.crossings[knot] = crossings;
            draft.sides[knot] = sides;
            return crossings > 0 || refuse(CANT_STAND);
        }

        private boolean readCord(int cord) {
            return take(Token.SMOOTH) && takeInto(draft.smooth, cord, 0, 99)
                    && take(Token.WEIGHT) && takeInto(draft.weight, cord, 0, 99)
                    && take(Token.LONG) && takeInto(draft.length, cord, 1, 999);
        }

        private boolean readSteps(int walk) {
            int steps = 0;
            while (steps < Shop.STEPS_MOST && (steps == 0 || token == Token.NUMBER)) {
                if (!takeInto(draft.strikes[walk], steps, 0, Shop.STEP_MOST)
                        || !takeInto(draft.swings[walk], steps, 0, Shop.STEP_MOST)) {
                    return false;
                }
                steps++;
            }
            draft.steps[walk] = steps;
            return true;
        }

        private boolean readWant(int want) {
            return take(Token.HOLDS) && takeInto(draft.wantHolds, want, 1, HOLDS_MOST)
                    && take(Token.PULL) && takeInto(draft.wantPull, want, 0, PULL_MOST);
        }

        private boolean readOnce(int i, int least, int most) {
            if (draft.onceTold[i]) {
                return refuse(CANT_STAND);
            }
            draft.onceTold[i] = true;
            step();
            return takeInto(draft.once, i, least, most) && take(';');
        }

        // -- an e; around: how many units ( e ) and ones behind not it is within --

        private boolean readAny(int around) {
            boolean read = readAll(around);
            for (int n = 0; n < Laws.UNITS_MOST && read && token == Token.OR; n++) {
                step();
                read = readAll(around) && putToken(Token.OR);
            }
            return read;
        }

        private boolean readAll(int around) {
            boolean read = readOne(around);
            for (int n = 0; n < Laws.UNITS_MOST && read && token == Token.AND; n++) {
                step();
                read = readOne(around) && putToken(Token.AND);
            }
            return read;
        }

        private boolean readOne(int around) {
            if (token != Token.NOT) {
                return readRelation(around);
            }
            if (around > Laws.WITHIN_MOST) {
                return refuse(CANT_STAND);
            }
            step();
            return readOne(around + 1) && putToken(Token.NOT);
        }

        private boolean readRelation(int around) {
            if (!readSum(around)) {
                return false;
            }
            int relation = token;
            if (relation != '<' && relation != '>' && relation != '=') {
                return true;
            }
            step();
            return readSum(around) && putToken(relation);
        }

        private boolean readSum(int around) {
            boolean read = readTerm(around);
            for (int n = 0; n < Laws.UNITS_MOST && read && (token == '+' || token == '-'); n++) {
                int sign = token;
                step();
                read = readTerm(around) && putToken(sign);
            }
            return read;
        }

        private boolean readTerm(int around) {
            boolean read = readUnit(around);
            for (int n = 0; n < Laws.UNITS_MOST && read && (token == '*' || token == '/'); n++) {
                int sign = token;
                step();
                read = readUnit(around) && putToken(sign);
            }
            return read;
        }

        private boolean readUnit(int around) {
            boolean isNumber = token == Token.NUMBER;
            boolean isGroup = token == '(';
            if (!isNumber && !isGroup && !Token.isUnitWord(token)) {
                return refuse(CANT_STAND);
            }
            if (draft.laws.units >= Laws.UNITS_MOST || isGroup && around > Laws.WITHIN_MOST) {
                return refuse(CANT_STAND);
            }
            draft.laws.units++;
            int unit = isNumber ? Laws.NUMBERS_FROM + number : token;
            if (!isGroup && !putToken(unit)) {
                return false;
            }
            step();
            return !isGroup || readAny(around + 1) && take(')');
        }

        private boolean putToken(int part) {
            return draft.laws.put(part) || refuse(CANT_STAND);
        }
    }

    /** A KNOT in a CORD, as it is now. */
    private static final class Bow {
        static final int OVER_SIDE = 0;
        static final int UNDER_SIDE = 1;

        final int[] tight = new int[Shop.CROSSINGS_MOST];
        final int[] ends = new int[2];
        int crossings = 0;
        int left = 0;
        int steps = 0;
        int slipped = 0;
        int walk = NONE;
        int nextStep = 0;
        private int sides = 0;
        private int likes = 0;
        private int smooth = 0;
        private int weight = 0;
        private int length = 0;
        private int strike = 0;
        private int swing = 0;

        /** CROSSINGS of the same SIDE as the one inside them, as bits. */
        static int likeBits(int crossings, int sides) {
            int allButInnermost = (1 << crossings) - 2;
            return ~(sides ^ sides << 1) & allButInnermost;
        }

        void takeKnot(int itsCrossings, int itsSides) {
            crossings = Math.min(itsCrossings, Shop.CROSSINGS_MOST);
            sides = itsSides;
            likes = likeBits(crossings, sides);
        }

        void takeCord(int itsSmooth, int itsWeight, int itsLength) {
            smooth = itsSmooth;
            weight = itsWeight;
            length = itsLength;
        }

        /** Ties it anew, of the KNOT and the CORD that it took. */
        void begin(int tightAtFirst) {
            for (int i = 0; i < crossings; i++) {
                tight[i] = tightAtFirst;
            }
            left = crossings;
            ends[OVER_SIDE] = length;
            ends[UNDER_SIDE] = length;
            steps = 0;
            slipped = 0;
            walk = NONE;
            nextStep = 0;
        }

        void copyFrom(Bow other) {
            for (int i = 0; i < Shop.CROSSINGS_MOST; i++) {
                tight[i] = other.tight[i];
            }
            ends[OVER_SIDE] = other.ends[OVER_SIDE];
            ends[UNDER_SIDE] = other.ends[UNDER_SIDE];
            takeKnot(other.crossings, other.sides);
            takeCord(other.smooth, other.weight, other.length);
            left = other.left;
            steps = other.steps;
            slipped = other.slipped;
            walk = other.walk;
            nextStep = other.nextStep;
        }

        int goStep(Laws laws, int law, int itsStrike, int itsSwing) {
            if (left == 0) {
                return 0;
            }
            strike = itsStrike;
            swing = itsSwing;
            return slip(laws, law, laws.ask(2 * law + 1, this, left - 1));
        }

        int pullByHand(Laws laws, int p) {
            strike = 0;
            swing = 0;
            return slip(laws, 0, p);
        }

        private int slip(Laws laws, int law, int force) {
            int all = 0;
            int pulls = force;
            for (int i = left - 1; i >= 0; i--) {
                int gives = slipOf(i, pulls, laws.ask(2 * law, this, i));
                if (gives == 0) {
                    break;
                }
                tight[i] -= gives;
                ends[sides >> i & 1] += gives;
                all += gives;
                pulls = 4 * gives;
            }
            while (left > 0 && tight[left - 1] == 0) {
                left--;
            }
            slipped += all;
            return all;
        }

        private int slipOf(int crossing, int pulls, int rub) {
            if (pulls <= rub) {
                return 0;
            }
            // as a long: the difference of two ints may be none
            long above = (long) pulls - rub;
            return (int) Math.min((above + 9) / 10, (long) tight[crossing]);
        }

        /** What a unit of an e is, asked of a CROSSING. */
        int tell(int unit, int crossing) {
            switch (unit) {
                case Token.TIGHT:
                    return tight[crossing];
                case Token.LIKE:
                    return likes >> crossing & 1;
                case Token.PLACE:
                    return crossing;
                case Token.SMOOTH:
                    return smooth;
                case Token.WEIGHT:
                    return weight;
                case Token.LONG:
                    return ends[sides >> crossing & 1];
                case Token.STRIKE:
                    return strike;
                default:
                    return swing;
            }
        }
    }

    /** A BOW newly tied for each question, on a WALK without luck. */
    private static final class Trial {
        static final int UNDONE_MOST = 990;
        static final int UNDONE_PULLS_MOST = 100;

        final Bow bow = new Bow();
        final int[] strikes = new int[Shop.STEPS_MOST];
        final int[] swings = new int[Shop.STEPS_MOST];
        int law = 0;
        private int walkSteps = 0;
        private int at = 0;

        void takeWalk(Shop shop, int walk) {
            walkSteps = shop.steps[walk];
            for (int i = 0; i < walkSteps; i++) {
                strikes[i] = shop.strikes[walk][i];
                swings[i] = shop.swings[walk][i];
            }
        }

        void lessen(int[] row, int by) {
            for (int i = 0; i < walkSteps; i++) {
                row[i] = Math.max(0, row[i] - by);
            }
        }

        int greatest(int[] row) {
            int most = 0;
            for (int i = 0; i < walkSteps; i++) {
                most = Math.max(most, row[i]);
            }
            return most;
        }

        private void begin(Shop shop) {
            bow.begin(shop.once[Shop.TIGHT]);
            at = 0;
        }

        private int advance(Shop shop) {
            int now = at;
            at = at + 1 < walkSteps ? at + 1 : 0;
            return bow.goStep(shop.laws, law, strikes[now], swings[now]);
        }

        int stepsHeld(Shop shop) {
            begin(shop);
            int idle = 0;
            for (int step = 1; step <= HOLDS_MOST; step++) {
                idle = advance(shop) == 0 ? idle + 1 : 0;
                if (bow.left == 0) {
                    return step;
                }
                if (idle >= walkSteps) {
                    // a whole round has changed nothing: none to come will
                    return HOLDS_MOST;
                }
            }
            return HOLDS_MOST;
        }

        int firstFeedingStep(Shop shop) {
            begin(shop);
            int first = NONE;
            int before = 0;
            for (int step = 1; step <= HOLDS_MOST; step++) {
                int now = advance(shop);
                if (now == 0 || now < before) {
                    first = NONE;
                } else if (first == NONE) {
                    first = step;
                }
                if (bow.left == 0) {
                    return first;
                }
                before = now;
            }
            return NONE;
        }

        int leastOpeningPull(Shop shop) {
            for (int p = 0; p <= UNDONE_MOST; p += 10) {
                if (opensBy(shop, p)) {
                    return p;
                }
            }
            return NONE;
        }

        private boolean opensBy(Shop shop, int p) {
            begin(shop);
            for (int n = 0; n < UNDONE_PULLS_MOST && bow.left > 0; n++) {
                if (bow.pullByHand(shop.laws, p) == 0) {
                    return false;
                }
            }
            return bow.left == 0;
        }

        int endsBehind(Shop shop, int steps) {
            begin(shop);
            for (int n = 0; n < steps && bow.left > 0; n++) {
                advance(shop);
            }
            return bow.ends[Bow.OVER_SIDE] + bow.ends[Bow.UNDER_SIDE];
        }

        int firstSlippingStep(Shop shop, int steps) {
            begin(shop);
            for (int step = 1; step <= steps; step++) {
                if (advance(shop) > 0) {
                    return step;
                }
            }
            return NONE;
        }
    }

    /** The FILMS of a SHOP, untold ones too. */
    private static final class Films {
        static final int MOST = 40;

        final int[] knot = new int[MOST];
        final int[] walk = new int[MOST];
        final int[] steps = new int[MOST];
        /** Pairs by which each is let, as bits. */
        final int[] lets = new int[MOST];
        final boolean[] untold = new boolean[MOST];
        final int[] untoldAt = new int[MOST];
        private final int[] toldAt = new int[MOST];
        int count = 0;

        int tell(int itsKnot, int itsWalk, int itsSteps, int time) {
            int number = Math.min(count, MOST - 1);
            knot[number] = itsKnot;
            walk[number] = itsWalk;
            steps[number] = itsSteps;
            lets[number] = 0;
            toldAt[number] = time;
            untold[number] = false;
            count = number + 1;
            return number;
        }

        boolean counts(int film, int k) {
            return toldAt[film] <= k && !(untold[film] && untoldAt[film] <= k);
        }
    }

    /** What an image keeps. */
    private static final class Box {
        final Bow bow = new Bow();
        int w = 0;
        boolean full = false;
    }
}
