import java.io.IOException;
import java.lang.reflect.Constructor;
import java.lang.reflect.Field;
import java.lang.reflect.Method;
import java.lang.reflect.Modifier;
import java.nio.file.Files;
import java.nio.file.Path;
import java.util.Arrays;
import java.util.Set;
import java.util.TreeSet;
import java.util.stream.Collectors;

/** The public face, and what LANGUAGE.md keeps out of the source and can be seen without much reading. */
public final class FaceTest {
    private static final String[] FACE = {
        "int type(int, int)", "int wipe(int)", "int undo(int)", "int fault(int)", "int house(int, int)",
        "int bride(int, int)", "int event(int, int, int)", "int back()", "int read(int)", "int at(int, int, int)",
        "int door(int, int, int)", "int draught(int)", "int dog(int)", "int kin(int)", "int lowest()", "int left(int)",
        "int wed(int, int)", "int when(int, int)", "int from(int, int)", "int spare(int)", "int seen(int, int, int)",
        "int forget()", "int never()", "int was(int, int)", "int ask(int)", "long chance(int, int, int)",
        "int ages(int, int, int)", "int sheet(int, int, int)", "int lose(int)", "int lay(int, int, int, int)",
        "int get(int, int, int)", "int copy(int, int, int, int, int)", "int write(int, int)", "int count(int)",
        "long digest()"};
    private static final String[] KEPT_OUT = {"throw", "throws", "try", "catch", "finally", "synchronized", "assert",
        "protected", "native", "volatile", "::", "Object", "System.out", "Random", "hashCode", "getClass"};
    private static final String[] MAY_IMPORT = {"Arrays", "ArrayList", "List", "Iterator"};
    private static final Check check = new Check();

    public static void main(String[] args) throws IOException {
        members();
        insideClasses();
        source();
        check.finish();
    }

    private static String header(Method m) {
        return m.getReturnType() + " " + m.getName() + "("
            + Arrays.stream(m.getParameterTypes()).map(Class::toString).collect(Collectors.joining(", ")) + ")";
    }

    private static void members() {
        Class<?> c = BrideDoors.class;
        check.holds("public and final", Modifier.isPublic(c.getModifiers()) && Modifier.isFinal(c.getModifiers()));
        Set<String> seen = new TreeSet<>(), names = new TreeSet<>();
        for (Method m : c.getDeclaredMethods()) {
            if (m.isSynthetic()) continue;
            if (Modifier.isPublic(m.getModifiers()) && !Modifier.isStatic(m.getModifiers())) {
                seen.add(header(m));
                names.add(m.getName());
            } else {
                check.holds(m + " is private", Modifier.isPrivate(m.getModifiers()));
            }
        }
        check.holds("the methods of the face " + seen, seen.equals(new TreeSet<>(Arrays.asList(FACE))));
        for (Method m : c.getDeclaredMethods()) {
            check.holds(m + " has a name of its own", Modifier.isPublic(m.getModifiers()) || !names.contains(m.getName()));
        }
        Constructor<?>[] made = c.getDeclaredConstructors();
        check.holds("one constructor", made.length == 1 && made[0].getParameterCount() == 0 && Modifier.isPublic(made[0].getModifiers()));
        Set<String> constants = new TreeSet<>();
        for (Field f : c.getDeclaredFields()) {
            if (Modifier.isPrivate(f.getModifiers())) {
                check.holds(f + ": static state is final", !Modifier.isStatic(f.getModifiers()) || Modifier.isFinal(f.getModifiers()));
            } else {
                constants.add(f.toString());
            }
        }
        Set<String> due = new TreeSet<>();
        for (String name : new String[] {"NONE", "BAD", "NOT", "FULL"}) {
            due.add("public static final int BrideDoors." + name);
        }
        check.holds("the constants of the face " + constants, constants.equals(due));
        check.due("NONE", BrideDoors.NONE, -1);
        check.due("BAD", BrideDoors.BAD, -2);
        check.due("NOT", BrideDoors.NOT, -3);
        check.due("FULL", BrideDoors.FULL, -4);
    }

    private static void insideClasses() {
        for (Class<?> c : BrideDoors.class.getDeclaredClasses()) {
            boolean hidden = !Modifier.isPublic(c.getModifiers()) && !Modifier.isProtected(c.getModifiers());
            check.holds(c + " is hidden and static", hidden && Modifier.isStatic(c.getModifiers()));
            check.holds(c + " has some twenty fields at most", fieldsOf(c) <= 22);
        }
        check.holds("some twenty fields at most", fieldsOf(BrideDoors.class) <= 22);
        check.holds("some twelve classes at most", BrideDoors.class.getDeclaredClasses().length <= 13);
    }

    private static long fieldsOf(Class<?> c) {
        return Arrays.stream(c.getDeclaredFields()).filter(f -> !Modifier.isStatic(f.getModifiers())).count();
    }

    private static void source() throws IOException {
        String text = Files.readString(Path.of("src/main/java/BrideDoors.java"));
        String code = text.replaceAll("(?s)/\\*.*?\\*/", "").replaceAll("//[^\n]*", "").replaceAll("import [^;]*;", "");
        for (String word : KEPT_OUT) {
            boolean isWord = Character.isLetter(word.charAt(0));
            String edge = isWord ? "(?s).*\\b\\Q" + word + "\\E\\b.*" : "(?s).*\\Q" + word + "\\E.*";
            check.holds("no " + word, !code.matches(edge));
        }
        check.holds("imports only what it may", text.replaceAll("import java\\.util\\.(" + String.join("|", MAY_IMPORT) + ");", "").indexOf("import ") < 0);
        check.holds("no function that ends in Exact", !code.matches("(?s).*\\w+Exact\\b.*"));
        methodLengths(code);
    }

    /** A method begins with a line that ends in ") {" at a class's indent, and ends where a brace stands at that indent. */
    private static void methodLengths(String code) {
        String[] lines = code.split("\n");
        for (int i = 0; i < lines.length; i++) {
            String indent = lines[i].replaceAll("\\S.*", "");
            if ((indent.length() == 4 || indent.length() == 8) && lines[i].matches(" +((public|private|static|abstract) )*\\w+(\\[\\])* \\w+\\(.*\\) \\{")) {
                int end = i;
                while (end < lines.length && !lines[end].equals(indent + "}")) end++;
                check.holds(lines[i].trim() + " is short", end - i <= 60);
                check.holds(lines[i].trim() + " takes seven at most", lines[i].split(",").length <= 7);
            }
        }
    }
}
