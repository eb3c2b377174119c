import java.util.Arrays;

/** A call told by its name and its arguments, of a BowWalk or of the Model. */
final class Calls {
    private Calls() { }

    static String told(int... a) {
        return Arrays.toString(a).replace('[', '(').replace(']', ')');
    }

    static int of(BowWalk x, String name, int... a) {
        return switch (name) {
            case "end" -> x.end(a[0]);
            case "shop" -> x.shop();
            case "fault" -> x.fault(a[0]);
            case "knot" -> x.knot(a[0], a[1]);
            case "tie" -> x.tie(a[0], a[1]);
            case "walk" -> x.walk(a[0], a[1]);
            case "pull" -> x.pull(a[0]);
            case "bow" -> x.bow(a[0]);
            case "holds" -> x.holds(a[0], a[1], a[2], a[3]);
            case "begins" -> x.begins(a[0], a[1], a[2]);
            case "alone" -> x.alone(a[0], a[1], a[2], a[3]);
            case "undone" -> x.undone(a[0], a[1]);
            case "met" -> x.met(a[0], a[1], a[2], a[3]);
            case "meets" -> x.meets(a[0], a[1], a[2]);
            case "odds" -> x.odds(a[0], a[1], a[2]);
            case "worse" -> x.worse(a[0], a[1], a[2], a[3]);
            case "which" -> x.which(a[0], a[1], a[2]);
            case "best" -> x.best(a[0], a[1], a[2], a[3], a[4]);
            case "both" -> x.both(a[0], a[1]);
            case "ends" -> x.ends(a[0], a[1], a[2], a[3]);
            case "change" -> x.change(a[0], a[1], a[2], a[3], a[4]);
            case "film" -> x.film(a[0], a[1], a[2], a[3], a[4]);
            case "untell" -> x.untell(a[0]) ? 1 : 0;
            case "later" -> x.later(a[0]);
            case "fits" -> x.fits(a[0]);
            case "parts" -> x.parts(a[0], a[1], a[2], a[3]);
            case "began" -> x.began(a[0], a[1]);
            case "seed" -> x.seed(a[0]);
            case "image" -> x.image(a[0]);
            case "back" -> x.back(a[0]);
            case "about" -> x.about(a[0]);
            default -> throw new IllegalArgumentException(name);
        };
    }

    static int of(Model m, String name, int... a) {
        return switch (name) {
            case "end" -> m.end(a[0]);
            case "shop" -> m.shop();
            case "fault" -> m.fault(a[0]);
            case "knot" -> m.knot(a[0], a[1]);
            case "tie" -> m.tie(a[0], a[1]);
            case "walk" -> m.walk(a[0], a[1]);
            case "pull" -> m.pull(a[0]);
            case "bow" -> m.bow(a[0]);
            case "holds" -> m.holds(a[0], a[1], a[2], a[3]);
            case "begins" -> m.begins(a[0], a[1], a[2]);
            case "alone" -> m.alone(a[0], a[1], a[2], a[3]);
            case "undone" -> m.undone(a[0], a[1]);
            case "met" -> m.met(a[0], a[1], a[2], a[3]);
            case "meets" -> m.meets(a[0], a[1], a[2]);
            case "odds" -> m.odds(a[0], a[1], a[2]);
            case "worse" -> m.worse(a[0], a[1], a[2], a[3]);
            case "which" -> m.which(a[0], a[1], a[2]);
            case "best" -> m.best(a[0], a[1], a[2], a[3], a[4]);
            case "both" -> m.both(a[0], a[1]);
            case "ends" -> m.ends(a[0], a[1], a[2], a[3]);
            case "change" -> m.change(a[0], a[1], a[2], a[3], a[4]);
            case "film" -> m.film(a[0], a[1], a[2], a[3], a[4]);
            case "untell" -> m.untell(a[0]) ? 1 : 0;
            case "later" -> m.later(a[0]);
            case "fits" -> m.fits(a[0]);
            case "parts" -> m.parts(a[0], a[1], a[2], a[3]);
            case "began" -> m.began(a[0], a[1]);
            case "seed" -> m.seed(a[0]);
            case "image" -> m.image(a[0]);
            case "back" -> m.back(a[0]);
            case "about" -> m.about(a[0]);
            default -> throw new IllegalArgumentException(name);
        };
    }
}
