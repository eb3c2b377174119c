import java.nio.charset.StandardCharsets;

/** What the tests share: counting wrong answers, and telling a BowWalk a text. */
final class Check {
    private int asked = 0;
    private int wrong = 0;
    private String promise = "";

    void promise(String name) {
        promise = name;
    }

    void due(String call, long got, long want) {
        asked++;
        if (got != want) {
            wrong++;
            System.out.println(promise + ": " + call + " answered " + got + ", due is " + want);
        }
    }

    void due(String call, boolean got, boolean want) {
        due(call, got ? 1 : 0, want ? 1 : 0);
    }

    void isTrue(String what, boolean holds) {
        due(what, holds, true);
    }

    /** The last line of a test: exit code 1 if an answer was wrong. */
    void close(String test) {
        System.out.println(test + ": " + asked + " asked, " + wrong + " wrong");
        if (wrong != 0 || asked == 0) {
            System.exit(1);
        }
    }

    /** The text up to the sign ^ and behind it: its FAULT is due at that place, and the TAPE stays. */
    void faulty(int kind, String marked) {
        int place = marked.indexOf('^');
        String text = marked.substring(0, place) + marked.substring(place + 1);
        BowWalk x = new BowWalk();
        tape(x, text);
        due("shop() of " + marked, x.shop(), -1);
        due("fault(0) of " + marked, x.fault(0), kind);
        due("fault(1) of " + marked, x.fault(1), place);
        due("about(7) of " + marked, x.about(7), text.length());
    }

    /** The text has no FAULT and so many KNOTS: a new object with that SHOP. */
    BowWalk right(int knots, String text) {
        BowWalk x = new BowWalk();
        tape(x, text);
        due("shop() of " + text, x.shop(), knots);
        due("fault(0) of " + text, x.fault(0), 0);
        due("fault(1) of " + text, x.fault(1), -1);
        due("about(7) of " + text, x.about(7), 0);
        return x;
    }

    /** The text stands on the (till now empty) TAPE. */
    static void tape(BowWalk x, String text) {
        tape(x, text.getBytes(StandardCharsets.ISO_8859_1));
    }

    static void tape(BowWalk x, byte[] bytes) {
        for (int from = 0; from < bytes.length; from += 20) {
            int[] five = five(bytes, from);
            x.feed(five[0], five[1], five[2], five[3], five[4]);
        }
        x.end(bytes.length);
    }

    static int[] five(byte[] bytes, int from) {
        int[] five = new int[5];
        for (int i = 0; i < 20; i++) {
            int b = from + i < bytes.length ? bytes[from + i] & 255 : ' ';
            five[i / 4] = five[i / 4] << 8 | b;
        }
        return five;
    }

    /** A new object with that SHOP. */
    static BowWalk shop(String text) {
        BowWalk x = new BowWalk();
        tape(x, text);
        if (x.shop() == BowWalk.NONE) {
            throw new IllegalStateException("fault " + x.fault(0) + " at " + x.fault(1) + " of: " + text);
        }
        return x;
    }
}
