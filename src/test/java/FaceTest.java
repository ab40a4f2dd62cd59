import java.io.IOException;
import java.lang.reflect.Constructor;
import java.lang.reflect.Field;
import java.lang.reflect.Method;
import java.lang.reflect.Modifier;
import java.nio.file.Files;
import java.nio.file.Path;
import java.util.ArrayList;
import java.util.List;
import java.util.Map;
import java.util.Set;
import java.util.TreeMap;
import java.util.TreeSet;
import java.util.regex.Matcher;
import java.util.regex.Pattern;

/** The public face is the document's, no more; and the file keeps to LANGUAGE.md as far as reading it can tell. */
public final class FaceTest {
    private static final Path SOURCE = Path.of("src/main/java/RubbleCity.java");
    private static final Path DOCUMENT = Path.of("../shared/DOC.md");
    private static final int MOST_LINES = 60;
    private static final int MOST_DEPTH = 8;
    private static final Pattern METHOD = Pattern.compile("( {4}| {8})(?! )(?:[\\w\\[\\]]+ )+(\\w+)\\(.*\\) \\{");

    public static void main(String[] args) throws IOException {
        face();
        members();
        words();
        lengths();
        depths();
        Check.end();
    }

    private static void face() throws IOException {
        Set<String> due = new TreeSet<>();
        Matcher told = Pattern.compile("public (int|long) (\\w+)\\(([^)]*)\\);").matcher(Files.readString(DOCUMENT));
        while (told.find()) {
            StringBuilder types = new StringBuilder();
            for (String parameter : told.group(3).split(",\\s*")) {
                types.append(parameter.split(" ")[0]).append(' ');
            }
            due.add(told.group(1) + " " + told.group(2) + " " + types.toString().trim());
        }
        Set<String> got = new TreeSet<>();
        for (Method method : RubbleCity.class.getDeclaredMethods()) {
            if (Modifier.isPublic(method.getModifiers())) {
                StringBuilder types = new StringBuilder();
                for (Class<?> type : method.getParameterTypes()) {
                    types.append(type).append(' ');
                }
                got.add(method.getReturnType() + " " + method.getName() + " " + types.toString().trim());
            }
        }
        Check.due("methods of the face " + due + " " + got, due.equals(got) ? 1 : 0, 1);
        Check.due("how many", due.size(), 45);
        Check.due("NONE", RubbleCity.NONE, -1);
        Check.due("BAD", RubbleCity.BAD, -2);
        Check.due("STATE", RubbleCity.STATE, -3);
        Check.due("FULL", RubbleCity.FULL, -4);
        Check.due("NO", RubbleCity.NO, -(1L << 62));
    }

    private static void members() {
        Check.due("public and final", RubbleCity.class.getModifiers(), Modifier.PUBLIC | Modifier.FINAL);
        Set<String> names = new TreeSet<>();
        for (Method method : RubbleCity.class.getDeclaredMethods()) {
            if (Modifier.isPublic(method.getModifiers())) {
                names.add(method.getName());
            }
        }
        for (Method method : RubbleCity.class.getDeclaredMethods()) {
            boolean isPrivate = Modifier.isPrivate(method.getModifiers());
            Check.due(method + " public or private", isPrivate || Modifier.isPublic(method.getModifiers()) ? 1 : 0, 1);
            Check.due(method + " name", isPrivate && names.contains(method.getName()) ? 1 : 0, 0);
            Check.due(method + " parameters", method.getParameterCount() <= 7 ? 1 : 0, 1);
        }
        for (Field field : RubbleCity.class.getDeclaredFields()) {
            boolean isFace = Set.of("NONE", "BAD", "STATE", "FULL", "NO").contains(field.getName());
            int due = isFace ? Modifier.PUBLIC : Modifier.PRIVATE;
            Check.due(field.toString(), field.getModifiers() & (Modifier.PUBLIC | Modifier.PROTECTED | Modifier.PRIVATE), due);
            boolean isStatic = Modifier.isStatic(field.getModifiers());
            Check.due(field + " final", isStatic && !Modifier.isFinal(field.getModifiers()) ? 1 : 0, 0);
        }
        Constructor<?>[] made = RubbleCity.class.getDeclaredConstructors();
        Check.due("constructors", made.length, 1);
        Check.due("its parameters", made[0].getParameterCount(), 0);
        Class<?>[] inside = RubbleCity.class.getDeclaredClasses();
        Check.due("classes", inside.length <= 12 ? 1 : 0, 1);
        for (Class<?> each : inside) {
            Check.due(each + " static", Modifier.isStatic(each.getModifiers()) ? 1 : 0, 1);
            int fields = 0;
            for (Field field : each.getDeclaredFields()) {
                boolean isStatic = Modifier.isStatic(field.getModifiers());
                fields += isStatic ? 0 : 1;
                Check.due(field + " final", isStatic && !Modifier.isFinal(field.getModifiers()) ? 1 : 0, 0);
            }
            Check.due(each + " fields", fields <= 20 ? 1 : 0, 1);
        }
    }

    private static void words() throws IOException {
        String source = Files.readString(SOURCE);
        String code = source.replaceAll("(?s)/\\*.*?\\*/", " ").replaceAll("//[^\n]*", " ");
        String[] ruledOut = {"throw", "throws", "try", "catch", "synchronized", "assert", "protected", "package",
            "\\w*Exact", "hashCode", "toString", "Object", "volatile", "transient", "native", "var"};
        for (String word : ruledOut) {
            Check.due("'" + word + "'", Pattern.compile("\\b" + word + "\\b").matcher(code).find() ? 1 : 0, 0);
        }
        Check.due("lambda", code.contains("->") ? 1 : 0, 0);
        Check.due("method reference", code.contains("::") ? 1 : 0, 0);
        Check.due("a sign above 127", Pattern.compile("[^\\x00-\\x7F]").matcher(source).find() ? 1 : 0, 0);
        Matcher imports = Pattern.compile("import ([^;]+);").matcher(code);
        while (imports.find()) {
            Check.due("import " + imports.group(1), imports.group(1).equals("java.util.Arrays") ? 1 : 0, 1);
        }
    }

    /** The lines of each method by its name; methods of one name in several classes are put together. */
    private static Map<String, List<String>> methods() throws IOException {
        Map<String, List<String>> bodies = new TreeMap<>();
        String indent = null;
        List<String> body = null;
        for (String line : Files.readAllLines(SOURCE)) {
            Matcher begins = METHOD.matcher(line);
            if (indent == null && begins.matches()) {
                indent = begins.group(1);
                body = bodies.computeIfAbsent(begins.group(2), name -> new ArrayList<>());
            } else if (line.equals(indent + "}")) {
                indent = null;
            } else if (indent != null) {
                body.add(line);
            }
        }
        return bodies;
    }

    private static void lengths() throws IOException {
        Map<String, List<String>> bodies = methods();
        Check.due("methods found", bodies.size() > 100 ? 1 : 0, 1);
        bodies.forEach((name, body) -> Check.due(name + " is short", body.size() <= MOST_LINES ? 1 : 0, 1));
    }

    private static void depths() throws IOException {
        Map<String, List<String>> bodies = methods();
        Map<String, Set<String>> calls = new TreeMap<>();
        for (String name : bodies.keySet()) {
            Matcher called = Pattern.compile("(\\w+)\\(").matcher(String.join("\n", bodies.get(name)));
            Set<String> all = new TreeSet<>();
            while (called.find()) {
                if (bodies.containsKey(called.group(1)) && !called.group(1).equals(name)) {
                    all.add(called.group(1));
                }
            }
            calls.put(name, all);
        }
        int deepest = 0;
        for (String name : calls.keySet()) {
            deepest = Math.max(deepest, depth(name, calls, 0));
        }
        // Below 5 the calls were not read at all.
        Check.due("calls go deep " + deepest, deepest >= 5 && deepest <= MOST_DEPTH ? 1 : 0, 1);
    }

    private static int depth(String name, Map<String, Set<String>> calls, int above) {
        int deepest = 0;
        for (String called : calls.get(name)) {
            // A ring of calls would go on for ever; this is deep enough to fail.
            deepest = Math.max(deepest, above > MOST_DEPTH ? MOST_DEPTH : depth(called, calls, above + 1));
        }
        return deepest + 1;
    }
}
