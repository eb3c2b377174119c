import java.util.Random;

/** All promises: runs of calls drawn at random (the same ones each time), held against the Model. */
public final class RandomRunsTest {
    private static final int RUNS = 400;
    private static final int CALLS = 120;

    private final Check check;
    private final Random random;
    private final BowWalk x = new BowWalk();
    private final Model m = new Model();

    private RandomRunsTest(Check check, long seed) {
        this.check = check;
        this.random = new Random(seed);
        check.promise("run " + seed);
    }

    public static void main(String[] args) {
        long from = args.length > 0 ? Long.parseLong(args[0]) : 1;
        int runs = args.length > 1 ? Integer.parseInt(args[1]) : RUNS;
        Check check = new Check();
        for (long seed = from; seed < from + runs; seed++) {
            new RandomRunsTest(check, seed).run();
        }
        check.close("RandomRunsTest");
    }

    private void run() {
        for (int i = 0; i < CALLS; i++) {
            if (i == 0 || random.nextInt(60) == 0) {
                tell(new Shops(random).text());
            }
            call(random.nextInt(33));
        }
    }

    private void tell(String text) {
        check.due("end(0)", x.end(0), m.end(0));
        byte[] bytes = text.getBytes(java.nio.charset.StandardCharsets.ISO_8859_1);
        for (int from = 0; from < bytes.length; from += 20) {
            int[] f = Check.five(bytes, from);
            check.due("feed", x.feed(f[0], f[1], f[2], f[3], f[4]), m.feed(f[0], f[1], f[2], f[3], f[4]));
        }
        check.due("end", x.end(bytes.length), m.end(bytes.length));
        check.due("shop of " + text, x.shop(), m.shop());
        check.due("fault(0) of " + text, x.fault(0), m.fault(0));
        check.due("fault(1) of " + text, x.fault(1), m.fault(1));
    }

    private int pick(int most) {
        int r = random.nextInt(40);
        if (r == 0) {
            return new int[] {-1, most + 1, Integer.MIN_VALUE, Integer.MAX_VALUE}[random.nextInt(4)];
        }
        return random.nextInt(most + 1);
    }

    private int some(int size) {
        return pick(size == 0 ? 0 : random.nextInt(12) == 0 ? size : size - 1);
    }

    private int knot() {
        return some(m.shop.knots.size());
    }

    private int cord() {
        return some(m.shop.cords.size());
    }

    private int stroll() {
        return some(m.shop.walks.size());
    }

    private int steps() {
        return random.nextInt(3) > 0 ? pick(30) : pick(501);
    }

    private int time() {
        return random.nextInt(10) == 0 ? pick(5) : m.time - random.nextInt(3);
    }

    private void call(int which) {
        int k = knot();
        int c = cord();
        int s = stroll();
        int n = random.nextInt(3) > 0 ? pick(40) : pick(2001);
        int two = pick(2);
        switch (which) {
            case 0 -> check.due("knot", x.knot(k, pick0(two)), m.knot(k, last));
            case 1 -> check.due("tie", x.tie(k, c), m.tie(k, c));
            case 2, 3, 4 -> walks(s);
            case 5, 6 -> pulls();
            case 7 -> check.due("holds", x.holds(k, c, s, pick0(some(m.shop.lawsOrUntold().size()))),
                    m.holds(k, c, s, last));
            case 8 -> check.due("begins", x.begins(k, c, s), m.begins(k, c, s));
            case 9 -> check.due("alone", x.alone(k, c, s, two), m.alone(k, c, s, two));
            case 10 -> check.due("undone", x.undone(k, c), m.undone(k, c));
            case 11 -> check.due("met", x.met(pick0(some(m.shop.wants.size())), k, c, s), m.met(last, k, c, s));
            case 12 -> check.due("meets", x.meets(pick0(some(m.shop.wants.size())), c, s), m.meets(last, c, s));
            case 13 -> check.due("odds", x.odds(k, n, two), m.odds(k, n, two));
            case 14 -> check.due("worse", x.worse(k, c, s, pick0(pick(4))), m.worse(k, c, s, last));
            case 15 -> check.due("which", x.which(k, c, s), m.which(k, c, s));
            case 16 -> bests(c, s);
            case 17 -> check.due("both", x.both(c, s), m.both(c, s));
            case 18 -> check.due("ends", x.ends(k, c, s, n), m.ends(k, c, s, n));
            case 19 -> check.due("change", x.change(k, c, s, n, two), m.change(k, c, s, n, two));
            case 20, 21 -> films(k, s);
            case 22 -> check.due("untell", x.untell(pick0(some(m.films.size()))), m.untell(last));
            case 23 -> check.due("later", x.later(pick0(random.nextInt(3) > 0 ? pick(3) : pick(1001))), m.later(last));
            case 24 -> check.due("fits", x.fits(pick0(time())), m.fits(last));
            case 25 -> parts(k);
            case 26 -> check.due("began", x.began(pick0(some(m.films.size())), two = pick(12)), m.began(last, two));
            case 27 -> check.due("seed", x.seed(pick0(random.nextInt())), m.seed(last));
            case 28 -> check.due("image", x.image(pick0(pick(3))), m.image(last));
            case 29 -> check.due("back", x.back(pick0(pick(3))), m.back(last));
            case 30 -> abouts();
            case 31 -> check.due("fault", x.fault(two), m.fault(two));
            default -> check.due("end", x.end(pick0(pick(1600))), m.end(last));
        }
        bows();
    }

    /** Kept so that both sides are asked the same. */
    private int last = 0;

    private int pick0(int n) {
        last = n;
        return n;
    }

    private void walks(int s) {
        int steps = steps();
        check.due("walk", x.walk(s, steps), m.walk(s, steps));
    }

    private void pulls() {
        int p = random.nextInt(3) > 0 ? pick(120) : pick(1000);
        check.due("pull", x.pull(p), m.pull(p));
    }

    private void bests(int c, int s) {
        int n = random.nextInt(8) == 0 ? pick(7) : 1 + random.nextInt(3);
        int p = random.nextInt(3) > 0 ? pick(200) : pick(1000);
        for (int what = 0; what <= 3; what++) {
            check.due("best " + what, x.best(n, c, s, p, what), m.best(n, c, s, p, what));
        }
    }

    private void films(int k, int s) {
        int steps = steps();
        int length = pick(30000);
        if (Model.in(m.shop.knots, k) && Model.in(m.shop.walks, s) && !m.shop.cords.isEmpty() && steps > 0 && steps < 501) {
            int pair = random.nextInt(m.shop.cords.size()) + 4 * random.nextInt(m.shop.lawsOrUntold().size());
            length = m.lengthBy(pair, k, s, steps) + random.nextInt(21) - 10;
        }
        int off = random.nextInt(4) > 0 ? pick(40) : pick(1000);
        check.due("film", x.film(k, s, steps, length, off), m.film(k, s, steps, length, off));
    }

    private void parts(int k) {
        int steps = steps();
        int time = time();
        for (int what = 0; what <= 2; what++) {
            check.due("parts " + what, x.parts(k, steps, what, time), m.parts(k, steps, what, time));
        }
    }

    private void abouts() {
        for (int what = -1; what <= 10; what++) {
            check.due("about " + what, x.about(what), m.about(what));
        }
    }

    private void bows() {
        for (int what = -1; what <= 22; what++) {
            check.due("bow " + what, x.bow(what), m.bow(what));
        }
    }
}
