import java.io.File;
import java.io.PrintWriter;
import java.io.StringWriter;
import java.net.URISyntaxException;
import java.util.ArrayList;
import java.util.HashMap;
import java.util.List;
import java.util.Map;
import java.util.Set;
import java.util.TreeMap;
import java.util.TreeSet;
import java.util.regex.Matcher;
import java.util.regex.Pattern;
import java.util.spi.ToolProvider;

/**
 * LANGUAGE.md as the bytecode shows it: how deep calls go (rule 11; methods that call one another in a ring are one
 * level together), which of them are a ring (rule 8), the library (rule 4), and that only constructors make anything.
 */
public final class DepthTest {
    private static final Check check = new Check();
    private static final int DEEPEST = 8;
    private static final Pattern HEAD = Pattern.compile("^  (?:\\S.* )?([\\w$.]+)\\(.*\\).*;$");
    private static final Pattern CALL = Pattern.compile("// (?:Interface)?Method (?:([\\w/$]+)\\.)?\"?([\\w<>$]+)\"?:");
    private static final Set<String> LIBRARY = Set.of("java/lang/String.length", "java/lang/String.charAt",
            "java/lang/Math.abs", "java/lang/Math.min", "java/lang/Math.max", "java/lang/Integer.bitCount",
            "java/lang/Object.<init>");
    private static final Set<String> EXPRESSION = Set.of("readAny", "readAll", "readOne", "readRelation", "readSum",
            "readTerm", "readUnit");

    private static final Map<String, Set<String>> calls = new TreeMap<>();
    private static final Map<String, Set<String>> reached = new HashMap<>();
    private static final Map<String, Integer> depths = new HashMap<>();
    private static String inClass = "";
    private static String inMethod = "";

    public static void main(String[] args) throws URISyntaxException {
        for (String line : disassembled().split("\n")) {
            take(line);
        }
        check.isTrue("methods were found", calls.size() > 100);
        check.promise("rule 11: eight deep at most");
        for (String method : calls.keySet()) {
            check.isTrue(method + " goes " + depth(method) + " deep", depth(method) <= DEEPEST);
        }
        check.promise("rule 8: the reading of an e alone calls itself");
        for (String method : calls.keySet()) {
            String name = method.substring(method.indexOf('.') + 1);
            boolean ofExpression = method.startsWith("BowWalk$Reader.") && EXPRESSION.contains(name);
            check.due(method + " calls itself", reach(method).contains(method), ofExpression);
        }
        check.close("DepthTest");
    }

    private static String disassembled() throws URISyntaxException {
        File folder = new File(BowWalk.class.getProtectionDomain().getCodeSource().getLocation().toURI());
        List<String> asked = new ArrayList<>(List.of("-p", "-c"));
        for (File file : folder.listFiles()) {
            if (file.getName().matches("BowWalk(\\$\\w+)?\\.class")) {
                asked.add(file.getPath());
            }
        }
        StringWriter told = new StringWriter();
        ToolProvider javap = ToolProvider.findFirst("javap").orElseThrow();
        javap.run(new PrintWriter(told), new PrintWriter(System.err), asked.toArray(new String[0]));
        return told.toString();
    }

    private static void take(String line) {
        Matcher ofClass = Pattern.compile("class ([\\w$]+) \\{$").matcher(line);
        if (ofClass.find()) {
            inClass = ofClass.group(1);
            return;
        }
        Matcher head = HEAD.matcher(line);
        if (head.find() || line.equals("  static {};")) {
            String name = line.equals("  static {};") ? "<clinit>" : head.group(1);
            inMethod = name.equals(inClass) ? "<init>" : name;
            calls.put(inClass + "." + inMethod, new TreeSet<>());
        } else if (line.matches("^ +\\d+: .*")) {
            takeInstruction(line.trim().replaceFirst("^\\d+: ", ""));
        }
    }

    private static void takeInstruction(String line) {
        String opcode = line.split(" ")[0];
        check.promise("rule 12: a constructor makes all");
        boolean makes = opcode.equals("new") || opcode.endsWith("newarray");
        check.isTrue(inClass + "." + inMethod + ": " + line, !makes || inMethod.startsWith("<"));
        check.promise("rules 2, 6: no throw, no cast, no lambda");
        check.isTrue(inClass + "." + inMethod + ": " + line, !opcode.matches("athrow|monitor\\w+|invokedynamic|checkcast"));
        Matcher call = CALL.matcher(line);
        if (opcode.startsWith("invoke") && call.find()) {
            String owner = call.group(1) == null ? inClass : call.group(1);
            String called = owner + "." + call.group(2);
            check.promise("rule 4: the library");
            check.isTrue(called, owner.startsWith("BowWalk") || LIBRARY.contains(called));
            calls.get(inClass + "." + inMethod).add(called);
        }
    }

    /** All that stands below a method: itself, too, if it can come back to it. */
    private static Set<String> reach(String method) {
        Set<String> known = reached.get(method);
        if (known != null) {
            return known;
        }
        Set<String> all = new TreeSet<>();
        List<String> open = new ArrayList<>(List.of(method));
        while (!open.isEmpty()) {
            for (String called : calls.getOrDefault(open.remove(open.size() - 1), Set.of())) {
                if (all.add(called)) {
                    open.add(called);
                }
            }
        }
        reached.put(method, all);
        return all;
    }

    /** Levels from a method on, itself and calls of the library counted. */
    private static int depth(String method) {
        Integer known = depths.get(method);
        if (known != null) {
            return known;
        }
        Set<String> ring = new TreeSet<>(Set.of(method));
        for (String other : reach(method)) {
            if (reach(other).contains(method)) {
                ring.add(other);
            }
        }
        int below = 0;
        for (String member : ring) {
            for (String called : calls.getOrDefault(member, Set.of())) {
                below = ring.contains(called) ? below : Math.max(below, depth(called));
            }
        }
        depths.put(method, below + 1);
        return below + 1;
    }
}
