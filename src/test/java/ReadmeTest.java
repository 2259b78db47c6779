import java.io.IOException;
import java.lang.reflect.Method;
import java.nio.file.Files;
import java.nio.file.Path;
import java.util.ArrayList;
import java.util.LinkedHashSet;
import java.util.List;
import java.util.Set;
import java.util.TreeSet;
import java.util.regex.Matcher;
import java.util.regex.Pattern;
import java.util.stream.Collectors;
import java.util.stream.Stream;

/** README.md: its calls answer as it says, its commands run as written, it names every call and every test. */
public final class ReadmeTest {
    private static final Path README = Path.of("README.md"), MADE = Path.of("build/readme"), TESTS = Path.of("src/test/java");
    private static final String ALL_TESTS = ".ci/run";
    private static final Pattern SHOWN = Pattern.compile("(x\\.\\w+\\(.*\\));\\s+// (-?\\d+): \\S.*");
    private static final Check check = new Check();

    public static void main(String[] args) throws IOException, InterruptedException {
        List<String> lines = Files.readAllLines(README);
        List<String> code = new ArrayList<>(), commands = new ArrayList<>(), rest = new ArrayList<>();
        part(lines, code, commands, rest);
        callsAnswer(code);
        everyCallIsNamed(code, rest);
        commandsRun(commands);
        everyTestIsNamed(String.join("\n", rest));
        check.finish();
    }

    /** What stands between fences is code, what stands four spaces in is a command. */
    private static void part(List<String> lines, List<String> code, List<String> commands, List<String> rest) {
        boolean inside = false;
        for (String line : lines) {
            if (line.startsWith("```")) inside = !inside;
            else if (inside) code.add(line);
            else if (line.startsWith("    ")) commands.add(line.trim());
            else rest.add(line);
        }
        check.holds("every fence is closed", !inside);
    }

    private static void callsAnswer(List<String> code) throws IOException, InterruptedException {
        StringBuilder source = new StringBuilder("public final class ReadmeCalls {\n  public static void main(String[] args) {\n");
        source.append("    Check check = new Check();\n");
        int shown = 0;
        for (String line : code) {
            Matcher matcher = SHOWN.matcher(line);
            if (matcher.matches()) {
                shown++;
                String call = matcher.group(1);
                source.append("check.due(\"" + call.replace("\"", "\\\"") + "\", " + call + ", " + matcher.group(2) + "L);\n");
            } else {
                check.holds("an answer behind // for " + line, !line.startsWith("x."));
                source.append(line).append('\n');
            }
        }
        source.append("    check.finish();\n  }\n}\n");
        check.holds("calls are shown", shown > 0);
        Files.createDirectories(MADE);
        Path file = MADE.resolve("ReadmeCalls.java");
        Files.writeString(file, source);
        String classes = System.getProperty("java.class.path");
        check.due("the calls compile", run("javac -cp '" + classes + "' -d " + MADE + " " + file), 0);
        check.due("the calls answer so", run("java -cp '" + MADE + ":" + classes + "' ReadmeCalls"), 0);
    }

    private static void everyCallIsNamed(List<String> code, List<String> rest) {
        String all = String.join("\n", rest), shown = String.join("\n", code);
        for (Method m : BrideDoors.class.getMethods()) {
            if (m.getDeclaringClass() != BrideDoors.class) continue;
            Matcher named = Pattern.compile("`" + m.getName() + "\\(([^)`]*)\\)`").matcher(all);
            boolean told = named.find();
            check.holds(m.getName() + " is told of", told);
            String between = told ? named.group(1) : "";
            int numbers = between.isEmpty() ? 0 : between.split(",").length;
            check.due(m.getName() + " is told of with its numbers", numbers, m.getParameterCount());
            check.holds(m.getName() + " is shown", shown.contains("x." + m.getName() + "("));
        }
    }

    /** All but the one that runs this test: with it there would be no end. */
    private static void commandsRun(List<String> commands) throws IOException, InterruptedException {
        check.holds("it names " + ALL_TESTS, commands.contains(ALL_TESTS));
        check.holds(ALL_TESTS + " may be run", Files.isExecutable(Path.of(ALL_TESTS)));
        check.holds("it names commands", commands.size() > 1);
        for (String command : commands) {
            if (!command.equals(ALL_TESTS)) {
                check.holds(command + " does not come back to this test", !command.contains("ReadmeTest"));
                check.due(command, run(command), 0);
            }
        }
    }

    private static void everyTestIsNamed(String text) throws IOException {
        Set<String> named = new TreeSet<>(), there;
        Matcher matcher = Pattern.compile("`(\\w+Test)`").matcher(text);
        while (matcher.find()) named.add(matcher.group(1));
        try (Stream<Path> files = Files.list(TESTS)) {
            there = files.map(f -> f.getFileName().toString()).filter(f -> f.endsWith("Test.java"))
                .map(f -> f.substring(0, f.length() - ".java".length())).collect(Collectors.toCollection(TreeSet::new));
        }
        Set<String> unlike = new LinkedHashSet<>(named);
        unlike.removeAll(there);
        check.holds("tests that are named and not there " + unlike, unlike.isEmpty());
        there.removeAll(named);
        check.holds("tests that are there and not named " + there, there.isEmpty());
    }

    private static int run(String command) throws IOException, InterruptedException {
        Process process = new ProcessBuilder("sh", "-c", command).redirectErrorStream(true).start();
        String told = new String(process.getInputStream().readAllBytes());
        int code = process.waitFor();
        if (code != 0) System.out.print(told);
        return code;
    }
}
