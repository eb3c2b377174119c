import java.util.Random;

/** Texts of SHOPS drawn at random: most are right, some have a byte or a word too many, too few, or another one. */
final class Shops {
    private static final String[] WORDS = ("knot cord walk law want tight like place smooth weight long strike swing luck "
            + "over under rub pull holds or and not a b c abcdefgh abcdefghi 0 1 50 99 100 1000 9999 12345 5a ; ( ) < > = + - "
            + "* / $ A , over; \n").split(" ");
    private final Random random;
    private final StringBuilder out = new StringBuilder();
    private int units = 0;

    Shops(Random random) {
        this.random = random;
    }

    String text() {
        int knots = random.nextInt(8) == 0 ? random.nextInt(8) : 1 + random.nextInt(6);
        for (int i = 0; i < knots; i++) {
            knot();
        }
        int cords = random.nextInt(20) == 0 ? 0 : 1 + random.nextInt(4);
        for (int i = 0; i < cords; i++) {
            out.append("cord ").append(name(i)).append(" smooth ").append(random.nextInt(30)).append(" weight ")
                    .append(random.nextInt(60)).append("\nlong ").append(1 + random.nextInt(200)).append(";");
        }
        int walks = random.nextInt(20) == 0 ? 0 : 1 + random.nextInt(4);
        for (int i = 0; i < walks; i++) {
            out.append("walk ").append(name(i));
            for (int n = random.nextInt(random.nextBoolean() ? 2 : 8); n >= 0; n--) {
                out.append(' ').append(random.nextInt(100)).append(' ').append(random.nextInt(100));
            }
            out.append(";");
        }
        if (random.nextInt(3) > 0) {
            out.append("tight ").append(1 + random.nextInt(random.nextBoolean() ? 60 : 999)).append(';');
        }
        if (random.nextInt(2) > 0) {
            out.append("luck ").append(random.nextInt(50)).append(';');
        }
        int laws = random.nextInt(4);
        for (int i = 0; i < laws && units < 55; i++) {
            law(i);
        }
        int wants = random.nextInt(5);
        for (int i = 0; i < wants; i++) {
            out.append("want ").append(name(i)).append(" holds ").append(1 + random.nextInt(random.nextBoolean() ? 30 : 2000))
                    .append(" pull ").append(random.nextInt(random.nextBoolean() ? 200 : 1000)).append(";");
        }
        String text = random.nextInt(3) == 0 ? spoilt(out.toString()) : out.toString();
        return text.length() > 1600 ? text.substring(0, 1600) : text;
    }

    private String name(int i) {
        return random.nextInt(60) == 0 ? "a" : String.valueOf((char) ('a' + i));
    }

    private void knot() {
        out.append("knot ").append(name((int) out.chars().filter(c -> c == ';').count()));
        for (int n = random.nextInt(random.nextInt(4) == 0 ? 12 : 4); n >= 0; n--) {
            out.append(random.nextBoolean() ? " over" : " under");
        }
        out.append(";");
    }

    private void law(int i) {
        out.append("law ").append(name(i)).append(" rub ");
        if (random.nextInt(3) == 0) {
            e(0);
        } else {
            out.append("tight - strike * ").append(random.nextInt(3)).append(" - smooth + like * ")
                    .append(random.nextInt(60)).append(" - place");
            units += 7;
        }
        out.append(" pull ");
        if (random.nextInt(3) == 0) {
            e(0);
        } else {
            out.append("weight + long * swing / ").append(1 + random.nextInt(200)).append(" + (swing > 30)*")
                    .append(random.nextInt(40));
            units += 8;
        }
        out.append(";");
    }

    private void e(int deep) {
        joined(deep, random.nextInt(6) == 0 ? " or " : null, () -> joined(deep,
                random.nextInt(6) == 0 ? " and " : null, () -> one(deep)));
    }

    private void joined(int deep, String sign, Runnable part) {
        part.run();
        if (sign != null && deep < 9) {
            out.append(sign);
            part.run();
        }
    }

    private void one(int deep) {
        if (random.nextInt(8) == 0 && deep < 9) {
            out.append("not ");
            one(deep + 1);
            return;
        }
        sum(deep);
        if (random.nextInt(5) == 0) {
            out.append("<>=".charAt(random.nextInt(3)));
            sum(deep);
        }
    }

    private void sum(int deep) {
        unit(deep);
        for (int n = random.nextInt(3); n > 0; n--) {
            out.append("+-*/*/".charAt(random.nextInt(6)));
            unit(deep);
        }
    }

    private void unit(int deep) {
        units++;
        if (random.nextInt(5) == 0 && deep < 9) {
            out.append('(');
            e(deep + 1);
            out.append(')');
        } else if (random.nextInt(3) == 0) {
            out.append(random.nextInt(random.nextBoolean() ? 20 : 10000));
        } else {
            out.append(' ').append(WORDS[5 + random.nextInt(8)]).append(' ');
        }
    }

    private String spoilt(String text) {
        int at = random.nextInt(text.length() + 1);
        switch (random.nextInt(6)) {
            case 0:
                return text.substring(0, at);
            case 1:
                return text.substring(0, at) + text.substring(Math.min(text.length(), at + 1));
            case 2:
                return text.substring(0, at) + (char) random.nextInt(256) + text.substring(at);
            case 3:
                int next = text.indexOf(' ', at);
                return next < 0 ? text : text.substring(0, at) + text.substring(next);
            case 4:
                int end = text.indexOf(';', at);
                return end < 0 ? text : text.substring(0, end + 1) + text.substring(at);
            default:
                int blank = Math.max(0, text.indexOf(' ', at));
                return text.substring(0, blank) + " " + WORDS[random.nextInt(WORDS.length)] + " " + text.substring(blank);
        }
    }
}
