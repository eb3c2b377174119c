import java.math.BigInteger;
import java.util.ArrayList;
import java.util.Arrays;
import java.util.HashSet;
import java.util.List;
import java.util.Set;
import java.util.TreeSet;

/**
 * The document once more, in the plainest words and with the whole Java library: no early ends, nothing
 * kept that could be asked anew. RandomRunsTest holds BowWalk against it.
 */
final class Model {
    static final int NONE = -1;

    /** What an e is asked of. */
    record Asked(int tight, int like, int place, int smooth, int weight, int length, int strike, int swing) { }

    interface E {
        int of(Asked a);
    }

    record Knot(String name, List<Boolean> under) { }

    record Cord(String name, int smooth, int weight, int length) { }

    record Walk(String name, List<int[]> steps) { }

    record Law(String name, E rub, E pull) { }

    record Want(String name, int holds, int pull) { }

    record Film(int knot, int walk, int steps, int length, int off, int told, int[] untold) { }

    static final class Shop {
        final List<Knot> knots = new ArrayList<>();
        final List<Cord> cords = new ArrayList<>();
        final List<Walk> walks = new ArrayList<>();
        final List<Law> laws = new ArrayList<>();
        final List<Want> wants = new ArrayList<>();
        Integer tight = null;
        Integer luck = null;
        int units = 0;

        int tightAtFirst() {
            return tight == null ? 100 : tight;
        }

        List<Law> lawsOrUntold() {
            return laws.isEmpty() ? List.of(new Law("", a -> a.tight - a.strike - a.smooth,
                    a -> a.weight + a.length * a.swing / 100)) : laws;
        }
    }

    static final class Fault extends RuntimeException {
        private static final long serialVersionUID = 1;
        final int kind;
        final int place;

        Fault(int kind, int place) {
            this.kind = kind;
            this.place = place;
        }
    }

    // ---- the text ----

    static final class Text {
        static final Set<String> OWN = new HashSet<>(Arrays.asList(("knot cord smooth weight long walk tight luck law "
                + "rub pull want holds over under or and not like place strike swing").split(" ")));
        final String text;
        final List<String> tokens = new ArrayList<>();
        final List<Integer> places = new ArrayList<>();
        final Shop shop = new Shop();
        int now = 0;

        Text(String text) {
            this.text = text;
            int i = 0;
            while (i < text.length()) {
                char c = text.charAt(i);
                if (c == ' ' || c == '\n') {
                    i++;
                    continue;
                }
                int j = i;
                while (j < text.length() && kind(text.charAt(j)) == kind(c) && kind(c) < 3) {
                    j++;
                }
                boolean bad = kind(c) == 4 || kind(c) == 1 && j - i > 8 || kind(c) == 2 && j - i > 4
                        || kind(c) == 2 && j < text.length() && kind(text.charAt(j)) == 1;
                places.add(i);
                if (bad) {
                    tokens.add("BAD");
                    return;
                }
                j = Math.max(j, i + 1);
                tokens.add(text.substring(i, j));
                i = j;
            }
            places.add(text.length());
            tokens.add("END");
        }

        static int kind(char c) {
            if (c >= 'a' && c <= 'z') {
                return 1;
            }
            if (c >= '0' && c <= '9') {
                return 2;
            }
            return ";()<>=+-*/".indexOf(c) >= 0 ? 3 : 4;
        }

        String see() {
            return tokens.get(now);
        }

        Fault fault(int kind) {
            return new Fault(see().equals("BAD") ? 1 : kind, places.get(now));
        }

        void take(String token) {
            if (!see().equals(token)) {
                throw fault(2);
            }
            now++;
        }

        boolean isNumber() {
            return kind(see().charAt(0)) == 2;
        }

        int number(int least, int most) {
            if (!isNumber()) {
                throw fault(2);
            }
            int n = Integer.parseInt(see());
            if (n < least || n > most) {
                throw fault(4);
            }
            now++;
            return n;
        }

        int part(String word, int least, int most) {
            take(word);
            return number(least, most);
        }

        String name(List<String> told) {
            if (kind(see().charAt(0)) != 1 || OWN.contains(see())) {
                throw fault(2);
            }
            if (told.contains(see())) {
                throw fault(3);
            }
            return tokens.get(now++);
        }

        Shop read() {
            while (!see().equals("END")) {
                line();
                take(";");
            }
            return shop;
        }

        void line() {
            String word = see();
            boolean full = word.equals("knot") && shop.knots.size() == 6 || word.equals("cord") && shop.cords.size() == 4
                    || word.equals("walk") && shop.walks.size() == 4 || word.equals("law") && shop.laws.size() == 3
                    || word.equals("want") && shop.wants.size() == 4 || word.equals("tight") && shop.tight != null
                    || word.equals("luck") && shop.luck != null;
            if (full || !List.of("knot", "cord", "walk", "law", "want", "tight", "luck").contains(word)) {
                throw fault(2);
            }
            now++;
            switch (word) {
                case "knot" -> knot();
                case "cord" -> shop.cords.add(new Cord(name(shop.cords.stream().map(Cord::name).toList()),
                        part("smooth", 0, 99), part("weight", 0, 99), part("long", 1, 999)));
                case "walk" -> walk();
                case "law" -> law();
                case "want" -> shop.wants.add(new Want(name(shop.wants.stream().map(Want::name).toList()),
                        part("holds", 1, 2000), part("pull", 0, 999)));
                case "tight" -> shop.tight = number(1, 999);
                default -> shop.luck = number(0, 49);
            }
        }

        void knot() {
            String name = name(shop.knots.stream().map(Knot::name).toList());
            List<Boolean> under = new ArrayList<>();
            do {
                if (!see().equals("over") && !see().equals("under") || under.size() == 12) {
                    throw fault(2);
                }
                under.add(tokens.get(now++).equals("under"));
            } while (!see().equals(";"));
            shop.knots.add(new Knot(name, under));
        }

        void walk() {
            String name = name(shop.walks.stream().map(Walk::name).toList());
            List<int[]> steps = new ArrayList<>();
            do {
                if (steps.size() == 8) {
                    throw fault(2);
                }
                int strike = number(0, 99);
                steps.add(new int[] {strike, number(0, 99)});
            } while (isNumber());
            shop.walks.add(new Walk(name, steps));
        }

        void law() {
            String name = name(shop.laws.stream().map(Law::name).toList());
            take("rub");
            E rub = e(0);
            take("pull");
            shop.laws.add(new Law(name, rub, e(0)));
        }

        E e(int within) {
            E left = and(within);
            while (see().equals("or")) {
                now++;
                E a = left;
                E b = and(within);
                left = x -> a.of(x) != 0 | b.of(x) != 0 ? 1 : 0;
            }
            return left;
        }

        E and(int within) {
            E left = one(within);
            while (see().equals("and")) {
                now++;
                E a = left;
                E b = one(within);
                left = x -> a.of(x) != 0 & b.of(x) != 0 ? 1 : 0;
            }
            return left;
        }

        E one(int within) {
            if (see().equals("not")) {
                if (within >= 7) {
                    throw fault(2);
                }
                now++;
                E a = one(within + 1);
                return x -> a.of(x) == 0 ? 1 : 0;
            }
            E a = sum(within);
            String sign = see();
            if (!List.of("<", ">", "=").contains(sign)) {
                return a;
            }
            now++;
            E b = sum(within);
            return switch (sign) {
                case "<" -> x -> a.of(x) < b.of(x) ? 1 : 0;
                case ">" -> x -> a.of(x) > b.of(x) ? 1 : 0;
                default -> x -> a.of(x) == b.of(x) ? 1 : 0;
            };
        }

        E sum(int within) {
            E left = term(within);
            while (see().equals("+") || see().equals("-")) {
                boolean plus = tokens.get(now++).equals("+");
                E a = left;
                E b = term(within);
                left = plus ? x -> a.of(x) + b.of(x) : x -> a.of(x) - b.of(x);
            }
            return left;
        }

        E term(int within) {
            E left = unit(within);
            while (see().equals("*") || see().equals("/")) {
                boolean times = tokens.get(now++).equals("*");
                E a = left;
                E b = unit(within);
                left = times ? x -> a.of(x) * b.of(x) : x -> b.of(x) == 0 ? 0 : a.of(x) / b.of(x);
            }
            return left;
        }

        E unit(int within) {
            if (shop.units == 60) {
                throw fault(2);
            }
            if (isNumber()) {
                shop.units++;
                int n = number(0, 9999);
                return x -> n;
            }
            if (see().equals("(")) {
                if (within >= 7) {
                    throw fault(2);
                }
                shop.units++;
                now++;
                E inside = e(within + 1);
                take(")");
                return inside;
            }
            E word = switch (see()) {
                case "tight" -> Asked::tight;
                case "like" -> Asked::like;
                case "place" -> Asked::place;
                case "smooth" -> Asked::smooth;
                case "weight" -> Asked::weight;
                case "long" -> Asked::length;
                case "strike" -> Asked::strike;
                case "swing" -> Asked::swing;
                default -> throw fault(2);
            };
            shop.units++;
            now++;
            return word;
        }
    }

    // ---- a bow ----

    static final class Bow {
        final List<Boolean> under;
        final Cord cord;
        final int[] tight;
        int left;
        int overEnd;
        int underEnd;
        int steps = 0;
        int slipped = 0;
        int walk = -1;
        int walked = 0;

        Bow(List<Boolean> under, Cord cord, int tightAtFirst) {
            this.under = under;
            this.cord = cord;
            tight = new int[under.size()];
            Arrays.fill(tight, tightAtFirst);
            left = under.size();
            overEnd = cord.length;
            underEnd = cord.length;
        }

        Bow copy() {
            Bow b = new Bow(under, cord, 0);
            System.arraycopy(tight, 0, b.tight, 0, tight.length);
            b.left = left;
            b.overEnd = overEnd;
            b.underEnd = underEnd;
            b.steps = steps;
            b.slipped = slipped;
            b.walk = walk;
            b.walked = walked;
            return b;
        }

        Asked asked(int i, int strike, int swing) {
            int like = i > 0 && under.get(i).equals(under.get(i - 1)) ? 1 : 0;
            return new Asked(tight[i], like, i, cord.smooth, cord.weight, under.get(i) ? underEnd : overEnd, strike, swing);
        }

        int step(Law law, int strike, int swing) {
            return pull(law, law.pull.of(asked(left - 1, strike, swing)), strike, swing);
        }

        int pull(Law law, int force, int strike, int swing) {
            int all = 0;
            BigInteger pulls = BigInteger.valueOf(force);
            boolean on = true;
            for (int i = left - 1; i >= 0; i--) {
                BigInteger above = pulls.subtract(BigInteger.valueOf(law.rub.of(asked(i, strike, swing))));
                int slips = 0;
                if (on && above.signum() > 0) {
                    slips = above.add(BigInteger.valueOf(9)).divide(BigInteger.TEN)
                            .min(BigInteger.valueOf(tight[i])).intValue();
                }
                tight[i] -= slips;
                if (under.get(i)) {
                    underEnd += slips;
                } else {
                    overEnd += slips;
                }
                all += slips;
                pulls = BigInteger.valueOf(4L * slips);
                on = slips > 0;
            }
            while (left > 0 && tight[left - 1] == 0) {
                left--;
            }
            slipped += all;
            return all;
        }
    }

    // ---- state ----

    String tape = "";
    Shop shop = new Shop();
    int fault = 0;
    int faultPlace = NONE;
    Bow bow = null;
    int w = 1;
    int time = 0;
    List<Film> films = new ArrayList<>();
    Bow[] boxBows = new Bow[3];
    int[] boxWs = new int[3];

    int feed(int a, int b, int c, int d, int e) {
        if (tape.length() + 20 > 1600) {
            return NONE;
        }
        StringBuilder more = new StringBuilder(tape);
        for (int n : new int[] {a, b, c, d, e}) {
            more.append((char) (n >>> 24)).append((char) (n >>> 16 & 255)).append((char) (n >>> 8 & 255))
                    .append((char) (n & 255));
        }
        tape = more.toString();
        return tape.length();
    }

    int end(int n) {
        if (n < 0 || n > tape.length()) {
            return NONE;
        }
        tape = tape.substring(0, n);
        return n;
    }

    int shop() {
        try {
            shop = new Text(tape).read();
        } catch (Fault f) {
            fault = f.kind;
            faultPlace = f.place;
            return NONE;
        }
        fault = 0;
        faultPlace = NONE;
        tape = "";
        bow = null;
        films = new ArrayList<>();
        boxBows = new Bow[3];
        return shop.knots.size();
    }

    int fault(int what) {
        return what == 0 ? fault : what == 1 ? faultPlace : NONE;
    }

    static boolean in(List<?> list, int i) {
        return i >= 0 && i < list.size();
    }

    static int bits(List<Boolean> under) {
        int bits = 0;
        for (int i = 0; i < under.size(); i++) {
            bits += under.get(i) ? 1 << i : 0;
        }
        return bits;
    }

    int knot(int knot, int what) {
        if (!in(shop.knots, knot)) {
            return NONE;
        }
        List<Boolean> under = shop.knots.get(knot).under;
        int like = 0;
        for (int i = 1; i < under.size(); i++) {
            like += under.get(i).equals(under.get(i - 1)) ? 1 : 0;
        }
        return what == 0 ? under.size() : what == 1 ? bits(under) : what == 2 ? like : NONE;
    }

    int tie(int knot, int cord) {
        if (!in(shop.knots, knot) || !in(shop.cords, cord)) {
            return NONE;
        }
        bow = new Bow(shop.knots.get(knot).under, shop.cords.get(cord), shop.tightAtFirst());
        return bow.left;
    }

    int walk(int walk, int steps) {
        if (bow == null || !in(shop.walks, walk) || steps < 0 || steps > 500 || bow.steps + steps > 100000) {
            return NONE;
        }
        int all = 0;
        for (int i = 0; i < steps && bow.left > 0; i++) {
            if (bow.walk != walk) {
                bow.walk = walk;
                bow.walked = 0;
            }
            List<int[]> row = shop.walks.get(walk).steps;
            int[] step = row.get(bow.walked % row.size());
            int swing = step[1];
            int luck = shop.luck == null ? 0 : shop.luck;
            if (luck != 0) {
                w = w * 1103515245 + 12345;
                swing = Math.max(0, swing + (w >>> 16) % (2 * luck + 1) - luck);
            }
            bow.walked++;
            bow.steps++;
            all += bow.step(shop.lawsOrUntold().get(0), step[0], swing);
        }
        return all;
    }

    int pull(int p) {
        if (bow == null || bow.left == 0 || p < 0 || p > 999) {
            return NONE;
        }
        return bow.pull(shop.lawsOrUntold().get(0), p, 0, 0);
    }

    int bow(int what) {
        if (bow == null) {
            return NONE;
        }
        return switch (what) {
            case 0 -> bow.left;
            case 1 -> bow.overEnd;
            case 2 -> bow.underEnd;
            case 3 -> bow.steps;
            case 4 -> bow.slipped;
            default -> what >= 10 && what < 10 + bow.tight.length ? bow.tight[what - 10] : NONE;
        };
    }

    // ---- questions ----

    /** What slips in each STEP, up to the one behind which it is OPEN, or the last of so many. */
    List<Integer> slips(Bow b, List<int[]> walk, Law law, int most) {
        List<Integer> slips = new ArrayList<>();
        while (slips.size() < most && b.left > 0) {
            int[] step = walk.get(slips.size() % walk.size());
            slips.add(b.step(law, step[0], step[1]));
        }
        return slips;
    }

    int held(List<Boolean> under, Cord cord, List<int[]> walk, Law law) {
        return slips(new Bow(under, cord, shop.tightAtFirst()), walk, law, 2000).size();
    }

    int held(int knot, int cord, int walk) {
        return held(shop.knots.get(knot).under, shop.cords.get(cord), shop.walks.get(walk).steps,
                shop.lawsOrUntold().get(0));
    }

    boolean can(int knot, int cord, int walk) {
        return in(shop.knots, knot) && in(shop.cords, cord) && in(shop.walks, walk);
    }

    int holds(int knot, int cord, int walk, int law) {
        if (!can(knot, cord, walk) || !in(shop.lawsOrUntold(), law)) {
            return NONE;
        }
        return held(shop.knots.get(knot).under, shop.cords.get(cord), shop.walks.get(walk).steps,
                shop.lawsOrUntold().get(law));
    }

    int begins(int knot, int cord, int walk) {
        if (!can(knot, cord, walk)) {
            return NONE;
        }
        Bow b = new Bow(shop.knots.get(knot).under, shop.cords.get(cord), shop.tightAtFirst());
        List<Integer> s = slips(b, shop.walks.get(walk).steps, shop.lawsOrUntold().get(0), 2000);
        if (b.left > 0) {
            return NONE;
        }
        for (int from = 0; from < s.size(); from++) {
            boolean feeds = true;
            for (int i = from; i < s.size() && feeds; i++) {
                feeds = s.get(i) > 0 && (i == 0 || s.get(i) >= s.get(i - 1));
            }
            if (feeds) {
                return from + 1;
            }
        }
        return NONE;
    }

    static List<int[]> less(List<int[]> walk, int strike, int swing) {
        List<int[]> row = new ArrayList<>();
        for (int[] step : walk) {
            row.add(new int[] {Math.max(0, step[0] - strike), Math.max(0, step[1] - swing)});
        }
        return row;
    }

    int alone(int knot, int cord, int walk, int what) {
        if (!can(knot, cord, walk) || what < 0 || what > 1) {
            return NONE;
        }
        return held(shop.knots.get(knot).under, shop.cords.get(cord),
                less(shop.walks.get(walk).steps, what == 1 ? 99 : 0, what == 0 ? 99 : 0), shop.lawsOrUntold().get(0));
    }

    int undoneBy(List<Boolean> under, Cord cord) {
        for (int p = 0; p <= 990; p += 10) {
            Bow b = new Bow(under, cord, shop.tightAtFirst());
            int slips = 1;
            for (int n = 0; n < 100 && b.left > 0 && slips > 0; n++) {
                slips = b.pull(shop.lawsOrUntold().get(0), p, 0, 0);
            }
            if (b.left == 0) {
                return p;
            }
        }
        return 1000;
    }

    static int orNone(int p) {
        return p == 1000 ? NONE : p;
    }

    int undone(int knot, int cord) {
        return in(shop.knots, knot) && in(shop.cords, cord)
                ? orNone(undoneBy(shop.knots.get(knot).under, shop.cords.get(cord))) : NONE;
    }

    int met(int want, int knot, int cord, int walk) {
        if (!in(shop.wants, want) || !can(knot, cord, walk)) {
            return NONE;
        }
        Want v = shop.wants.get(want);
        int p = undoneBy(shop.knots.get(knot).under, shop.cords.get(cord));
        return held(knot, cord, walk) >= v.holds && p <= v.pull ? 1 : 0;
    }

    int meets(int want, int cord, int walk) {
        if (!in(shop.wants, want) || !in(shop.cords, cord) || !in(shop.walks, walk)) {
            return NONE;
        }
        int bits = 0;
        for (int knot = 0; knot < shop.knots.size(); knot++) {
            bits += met(want, knot, cord, walk) << knot;
        }
        return bits;
    }

    int odds(int knot, int n, int part) {
        if (!in(shop.knots, knot) || n < 1 || n > 2000 || part < 0 || part > 1
                || shop.cords.isEmpty() || shop.walks.isEmpty()) {
            return NONE;
        }
        int good = 0;
        int all = 0;
        for (int cord = 0; cord < shop.cords.size(); cord++) {
            for (int walk = 0; walk < shop.walks.size(); walk++) {
                good += held(knot, cord, walk) >= n ? 1 : 0;
                all++;
            }
        }
        int gcd = BigInteger.valueOf(good).gcd(BigInteger.valueOf(all)).intValue();
        return part == 0 ? good / gcd : all / gcd;
    }

    int worse(int knot, int cord, int walk, int crossing) {
        if (!can(knot, cord, walk) || !in(shop.knots.get(knot).under, crossing)) {
            return -10000;
        }
        List<Boolean> turned = new ArrayList<>(shop.knots.get(knot).under);
        turned.set(crossing, !turned.get(crossing));
        return held(knot, cord, walk) - held(turned, shop.cords.get(cord), shop.walks.get(walk).steps,
                shop.lawsOrUntold().get(0));
    }

    int which(int knot, int cord, int walk) {
        if (!can(knot, cord, walk)) {
            return NONE;
        }
        int best = 0;
        for (int i = 1; i < shop.knots.get(knot).under.size(); i++) {
            best = worse(knot, cord, walk, i) > worse(knot, cord, walk, best) ? i : best;
        }
        return best;
    }

    int best(int n, int cord, int walk, int p, int what) {
        if (n < 1 || n > 6 || !in(shop.cords, cord) || !in(shop.walks, walk) || p < 0 || p > 999 || what < 0 || what > 2) {
            return NONE;
        }
        int[] best = {NONE, NONE, NONE};
        for (int sides = 0; sides < 1 << n; sides++) {
            List<Boolean> under = new ArrayList<>();
            for (int i = 0; i < n; i++) {
                under.add((sides >> i) % 2 == 1);
            }
            if (under.get(0)) {
                continue;
            }
            int undone = undoneBy(under, shop.cords.get(cord));
            int held = held(under, shop.cords.get(cord), shop.walks.get(walk).steps, shop.lawsOrUntold().get(0));
            if (undone <= p && held > best[1]) {
                best = new int[] {sides, held, undone};
            }
        }
        return best[what];
    }

    int both(int cord, int walk) {
        if (!in(shop.cords, cord) || !in(shop.walks, walk)) {
            return NONE;
        }
        int bits = 0;
        for (int a = 0; a < shop.knots.size(); a++) {
            boolean good = true;
            for (int b = 0; b < shop.knots.size(); b++) {
                int more = held(b, cord, walk) - held(a, cord, walk);
                int easier = undoneBy(shop.knots.get(a).under, shop.cords.get(cord))
                        - undoneBy(shop.knots.get(b).under, shop.cords.get(cord));
                good &= !(more >= 0 && easier >= 0 && more + easier > 0);
            }
            bits += good ? 1 << a : 0;
        }
        return bits;
    }

    int ends(int knot, int cord, int walk, int n) {
        if (!can(knot, cord, walk) || n < 1 || n > 2000) {
            return NONE;
        }
        Cord c = shop.cords.get(cord);
        for (int length = 10; length <= 990; length += 10) {
            if (held(shop.knots.get(knot).under, new Cord("", c.smooth, c.weight, length),
                    shop.walks.get(walk).steps, shop.lawsOrUntold().get(0)) < n) {
                return length;
            }
        }
        return NONE;
    }

    int change(int knot, int cord, int walk, int n, int what) {
        if (!can(knot, cord, walk) || n < 1 || n > 2000 || what < 0 || what > 1) {
            return NONE;
        }
        for (int d = 0; d <= 99; d++) {
            List<int[]> row = less(shop.walks.get(walk).steps, what == 1 ? d : 0, what == 0 ? d : 0);
            if (held(shop.knots.get(knot).under, shop.cords.get(cord), row, shop.lawsOrUntold().get(0)) >= n) {
                return d;
            }
        }
        return NONE;
    }

    // ---- films ----

    int film(int knot, int walk, int steps, int length, int off) {
        if (films.size() == 40 || !in(shop.knots, knot) || !in(shop.walks, walk) || steps < 1 || steps > 500
                || length < 0 || length > 29999 || off < 0 || off > 999) {
            return NONE;
        }
        films.add(new Film(knot, walk, steps, length, off, time, new int[] {NONE}));
        return films.size() - 1;
    }

    boolean untell(int film) {
        if (!in(films, film) || films.get(film).untold[0] != NONE) {
            return false;
        }
        films.get(film).untold[0] = time;
        return true;
    }

    int later(int by) {
        if (by < 0 || by > 1000 || time + by > 100000) {
            return NONE;
        }
        return time += by;
    }

    boolean isPair(int pair) {
        return pair >= 0 && in(shop.lawsOrUntold(), pair / 4) && in(shop.cords, pair % 4);
    }

    int lengthBy(int pair, int knot, int walk, int steps) {
        Bow b = new Bow(shop.knots.get(knot).under, shop.cords.get(pair % 4), shop.tightAtFirst());
        slips(b, shop.walks.get(walk).steps, shop.lawsOrUntold().get(pair / 4), steps);
        return b.overEnd + b.underEnd;
    }

    int fits(int k) {
        int bits = 0;
        for (int pair = 0; pair < 12; pair++) {
            boolean fit = isPair(pair);
            for (Film f : films) {
                boolean counts = f.told <= k && (f.untold[0] == NONE || f.untold[0] > k);
                fit = fit && (!counts || Math.abs(lengthBy(pair, f.knot, f.walk, f.steps) - f.length) <= f.off);
            }
            bits += fit ? 1 << pair : 0;
        }
        return bits;
    }

    int parts(int knot, int steps, int what, int k) {
        if (!in(shop.knots, knot) || steps < 1 || steps > 500 || what < 0 || what > 1 || shop.walks.isEmpty()) {
            return NONE;
        }
        int fit = fits(k);
        if (fit == 0) {
            return NONE;
        }
        int best = NONE;
        int most = NONE;
        for (int walk = 0; walk < shop.walks.size(); walk++) {
            Set<Integer> lengths = new TreeSet<>();
            for (int pair = 0; pair < 12; pair++) {
                if ((fit >> pair) % 2 == 1) {
                    lengths.add(lengthBy(pair, knot, walk, steps));
                }
            }
            if (lengths.size() > most) {
                most = lengths.size();
                best = walk;
            }
        }
        return what == 0 ? best : most;
    }

    int began(int film, int pair) {
        if (!in(films, film) || !isPair(pair)) {
            return NONE;
        }
        Film f = films.get(film);
        Bow b = new Bow(shop.knots.get(f.knot).under, shop.cords.get(pair % 4), shop.tightAtFirst());
        List<Integer> s = slips(b, shop.walks.get(f.walk).steps, shop.lawsOrUntold().get(pair / 4), f.steps);
        for (int i = 0; i < s.size(); i++) {
            if (s.get(i) > 0) {
                return i + 1;
            }
        }
        return NONE;
    }

    // ---- the rest ----

    int seed(int w) {
        int was = this.w;
        this.w = w;
        return was;
    }

    int image(int box) {
        if (box < 0 || box > 2 || bow == null) {
            return NONE;
        }
        boxBows[box] = bow.copy();
        boxWs[box] = w;
        return bow.left;
    }

    int back(int box) {
        if (box < 0 || box > 2 || boxBows[box] == null) {
            return NONE;
        }
        bow = boxBows[box].copy();
        w = boxWs[box];
        return bow.left;
    }

    int about(int what) {
        return switch (what) {
            case 0 -> shop.knots.size();
            case 1 -> shop.cords.size();
            case 2 -> shop.walks.size();
            case 3 -> shop.laws.size();
            case 4 -> shop.wants.size();
            case 5 -> films.size();
            case 6 -> time;
            case 7 -> tape.length();
            case 8 -> w;
            case 9 -> shop.units;
            default -> NONE;
        };
    }
}
