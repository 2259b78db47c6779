import java.io.PrintWriter;
import java.io.StringWriter;
import java.util.ArrayList;
import java.util.LinkedHashMap;
import java.util.LinkedHashSet;
import java.util.List;
import java.util.Map;
import java.util.Set;
import java.util.regex.Matcher;
import java.util.regex.Pattern;
import java.util.spi.ToolProvider;

/** What LANGUAGE.md asks of the class and its compiled form shows: the library, how deep calls go, what is made. */
public final class MachineTest {
    private static final int DEEPEST = 8;
    /** Of what rule 4 lets the class use, that which makes nothing. */
    private static final Set<String> LIBRARY = Set.of("java/lang/Object.<init>", "java/lang/String.indexOf",
        "java/lang/String.charAt", "java/lang/String.length", "java/lang/Integer.bitCount", "java/lang/Math.min",
        "java/lang/Math.max", "java/lang/Math.abs", "java/util/Arrays.fill", "java/lang/System.arraycopy");
    private static final Pattern METHOD = Pattern.compile("  (?:\\S.* )?([\\w$]+)\\(.*\\);");
    private static final String STATIC_ROWS = "  static {};";
    private static final Pattern CALL = Pattern.compile(".*\\binvoke\\w+ .*Method (\\S+?):.*");
    private static final Pattern MAKES = Pattern.compile(" *\\d+: (new|newarray|anewarray|multianewarray|invokedynamic)\\b.*");
    private static final Check check = new Check();
    private static final Map<String, Set<String>> calls = new LinkedHashMap<>();

    public static void main(String[] args) {
        List<String> classes = new ArrayList<>();
        classes.add("BrideDoors");
        for (Class<?> c : BrideDoors.class.getDeclaredClasses()) classes.add(c.getName());
        for (String name : classes) read(name, shown(name));
        check.holds("methods are seen", calls.size() > BrideDoors.class.getDeclaredMethods().length);
        libraryOnly();
        for (String method : calls.keySet()) {
            check.holds("calls no deeper than " + DEEPEST + " from " + method, depthOf(method, 1) <= DEEPEST);
        }
        check.finish();
    }

    private static String shown(String name) {
        StringWriter out = new StringWriter();
        PrintWriter writer = new PrintWriter(out);
        ToolProvider javap = ToolProvider.findFirst("javap").orElse(null);
        check.holds("javap is there", javap != null);
        if (javap != null) {
            String from = System.getProperty("java.class.path");
            check.due("javap " + name, javap.run(writer, writer, "-c", "-p", "-cp", from, name), 0);
        }
        writer.flush();
        return out.toString();
    }

    private static void read(String name, String code) {
        String method = name;
        for (String line : code.split("\n")) {
            Matcher head = METHOD.matcher(line), call = CALL.matcher(line);
            if (line.equals(STATIC_ROWS)) {
                method = name + ".<clinit>";
            } else if (head.matches()) {
                boolean constructs = head.group(1).equals(name);
                method = name + "." + (constructs ? "<init>" : head.group(1));
                calls.putIfAbsent(method, new LinkedHashSet<>());
            } else if (call.matches()) {
                String called = call.group(1).replace("\"", "");
                calls.computeIfAbsent(method, m -> new LinkedHashSet<>()).add(called.contains(".") ? called : name + "." + called);
            }
            check.holds(method + " throws nothing", !line.contains("athrow"));
            boolean mayMake = method.endsWith(".<init>") || method.endsWith(".<clinit>");
            check.holds(method + " makes nothing: " + line.trim(), mayMake || !MAKES.matcher(line).matches());
        }
    }

    private static void libraryOnly() {
        for (Map.Entry<String, Set<String>> entry : calls.entrySet()) {
            for (String called : entry.getValue()) {
                check.holds(entry.getKey() + " may call " + called, called.startsWith("BrideDoors") || LIBRARY.contains(called));
            }
        }
    }

    /** How many calls stand open at once, this one too; a call that comes round again is deeper than any may be. */
    private static int depthOf(String method, int above) {
        int deepest = 1;
        if (above > DEEPEST) return deepest;
        for (String called : calls.getOrDefault(method, Set.of())) {
            for (String target : targets(called)) deepest = Math.max(deepest, 1 + depthOf(target, above + 1));
        }
        return deepest;
    }

    /** A method without code of its own stands for those of the classes that have it. */
    private static Set<String> targets(String called) {
        Set<String> all = new LinkedHashSet<>();
        String name = called.substring(called.lastIndexOf('.'));
        boolean hasCode = !calls.getOrDefault(called, Set.of()).isEmpty();
        if (hasCode || name.equals(".<init>") || !called.startsWith("BrideDoors$")) return Set.of(called);
        for (String other : calls.keySet()) if (other.endsWith(name)) all.add(other);
        all.add(called);
        return all;
    }
}
