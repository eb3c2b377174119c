import java.io.IOException;
import java.lang.management.ManagementFactory;
import java.lang.reflect.Constructor;
import java.lang.reflect.Field;
import java.lang.reflect.Method;
import java.lang.reflect.Modifier;
import java.nio.file.Files;
import java.nio.file.Path;
import java.util.Arrays;
import java.util.Set;
import java.util.TreeSet;
import java.util.regex.Matcher;
import java.util.regex.Pattern;

/** The face of the document, what of LANGUAGE.md can be seen from outside, and that no call makes an object. */
public final class RulesTest {
    private static final Check check = new Check();
    private static final String FACE = "int feed(int,int,int,int,int) int end(int) int shop() int fault(int) int knot(int,int) "
            + "int tie(int,int) int walk(int,int) int pull(int) int bow(int) int holds(int,int,int,int) int begins(int,int,int) "
            + "int alone(int,int,int,int) int undone(int,int) int met(int,int,int,int) int meets(int,int,int) "
            + "int odds(int,int,int) int worse(int,int,int,int) int which(int,int,int) int best(int,int,int,int,int) "
            + "int both(int,int) int ends(int,int,int,int) int change(int,int,int,int,int) int film(int,int,int,int,int) "
            + "boolean untell(int) int later(int) int fits(int) int parts(int,int,int,int) int began(int,int) int seed(int) "
            + "int image(int) int back(int) int about(int)";

    public static void main(String[] args) throws IOException {
        face();
        source(Files.readString(Path.of("src/main/java/BowWalk.java")));
        room();
        check.close("RulesTest");
    }

    private static void face() {
        check.promise("the face");
        Set<String> want = new TreeSet<>(Arrays.asList(FACE.split(" (?=int|boolean)")));
        Set<String> got = new TreeSet<>();
        Set<String> names = new TreeSet<>();
        for (Method m : BowWalk.class.getDeclaredMethods()) {
            if (!Modifier.isPrivate(m.getModifiers())) {
                got.add(m.getReturnType() + " " + m.getName() + "("
                        + String.join(",", Arrays.stream(m.getParameterTypes()).map(Class::getName).toList()) + ")");
                names.add(m.getName());
                check.isTrue(m + " is public and no more", m.getModifiers() == Modifier.PUBLIC);
            }
        }
        check.isTrue("methods " + got, got.equals(want));
        for (Field f : BowWalk.class.getDeclaredFields()) {
            boolean none = f.getName().equals("NONE");
            check.isTrue(f + "", none ? f.getModifiers() == (Modifier.PUBLIC | Modifier.STATIC | Modifier.FINAL)
                    : Modifier.isPrivate(f.getModifiers()));
        }
        check.due("NONE", BowWalk.NONE, -1);
        for (Constructor<?> c : BowWalk.class.getDeclaredConstructors()) {
            check.isTrue(c + "", Modifier.isPublic(c.getModifiers()) && c.getParameterCount() == 0);
        }
        for (Class<?> inside : BowWalk.class.getDeclaredClasses()) {
            check.isTrue(inside + " is private, static", Modifier.isPrivate(inside.getModifiers())
                    && Modifier.isStatic(inside.getModifiers()));
            check.isTrue(inside + " has twenty fields", Arrays.stream(inside.getDeclaredFields())
                    .filter(f -> !Modifier.isStatic(f.getModifiers())).count() <= 20);
            for (Method m : inside.getDeclaredMethods()) {
                check.isTrue(m + " has a name of its own", !names.contains(m.getName()));
            }
        }
    }

    private static void source(String source) {
        check.promise("LANGUAGE.md");
        String code = source.replaceAll("(?s)/\\*.*?\\*/", "").replaceAll("//[^\n]*", "").replaceAll("\"[^\"\n]*\"", "\"\"");
        String[] never = {"\\bthrow\\b", "\\btry\\b", "\\bcatch\\b", "\\bfinally\\b", "\\bsynchronized\\b", "\\bassert\\b",
            "\\bimport\\b", "\\bpackage\\b", "->", "::", "\\bstatic\\s*\\{", "Exact\\b", "\\bSystem\\b", "\\bThread\\b",
            "\\bRandom\\b", "\"\"\\s*\\+", "\\+\\s*\"\"", "\\bwhile\\s*\\(true\\)", "for\\s*\\(;;"};
        for (String word : never) {
            check.isTrue("no " + word, !Pattern.compile(word).matcher(code).find());
        }
        Matcher heads = Pattern.compile("(?m)^ {4,8}[a-z][^=;{}()]*\\(([^()]*)\\) \\{$").matcher(code);
        int methods = 0;
        while (heads.find()) {
            methods++;
            check.isTrue("seven parameters: " + heads.group(), heads.group(1).split(",").length <= 7);
            String indent = heads.group().replaceAll("(?s)^( *).*", "$1");
            int end = code.indexOf("\n" + indent + "}", heads.end());
            check.isTrue("sixty lines: " + heads.group(), code.substring(heads.start(), end).split("\n").length <= 60);
        }
        check.isTrue("methods were found", methods > 100);
        check.isTrue("twelve classes", code.split("\\bclass\\b").length - 1 <= 12);
    }

    /** All calls of a run live in one room: only the constructor makes anything. */
    private static void room() {
        check.promise("one room");
        com.sun.management.ThreadMXBean threads = (com.sun.management.ThreadMXBean) ManagementFactory.getThreadMXBean();
        long id = Thread.currentThread().getId();
        byte[] text = ("knot g over over under;knot s over under;cord c smooth 1 weight 2 long 30;cord d smooth 9 weight 2 long 30;"
                + "walk w 50 50 1 1;walk v 9 9;tight 30;luck 9;law a rub tight - strike * (2 - like) pull weight + long;"
                + "law b rub not (tight > 5) pull 50;want a holds 5 pull 100;").getBytes();
        int[][] fives = new int[(text.length + 19) / 20][];
        for (int i = 0; i < fives.length; i++) {
            fives[i] = Check.five(text, 20 * i);
        }
        everyCall(new BowWalk(), fives, text.length);
        long before = threads.getThreadAllocatedBytes(id);
        BowWalk x = new BowWalk();
        long made = threads.getThreadAllocatedBytes(id);
        int sum = everyCall(x, fives, text.length);
        long after = threads.getThreadAllocatedBytes(id);
        check.due("bytes that calls made (" + sum + ")", after - made, 0);
        check.isTrue("an object takes " + (made - before) + " bytes", made - before < 40000);
    }

    private static int everyCall(BowWalk x, int[][] fives, int length) {
        int sum = 0;
        for (int[] f : fives) {
            sum += x.feed(f[0], f[1], f[2], f[3], f[4]);
        }
        sum += x.end(length) + x.shop() + x.fault(0) + x.fault(1) + x.knot(0, 2) + x.tie(0, 0) + x.image(0);
        sum += x.walk(0, 3) + x.pull(50) + x.bow(0) + x.back(0) + x.holds(0, 0, 0, 0) + x.begins(0, 0, 0);
        sum += x.alone(0, 0, 0, 0) + x.undone(0, 0) + x.met(0, 0, 0, 0) + x.meets(0, 0, 0) + x.odds(0, 5, 0);
        sum += x.worse(0, 0, 0, 0) + x.which(0, 0, 0) + x.best(3, 0, 0, 500, 0) + x.both(0, 0) + x.ends(0, 0, 0, 5);
        sum += x.change(0, 0, 0, 5, 0) + x.film(0, 0, 5, 80, 30) + x.later(1) + x.fits(1) + x.parts(0, 5, 0, 1);
        sum += x.began(0, 0) + (x.untell(0) ? 1 : 0) + x.seed(1) + x.about(3);
        sum += x.feed(1, 2, 3, 4, 5) + x.shop();
        return sum;
    }
}
