import java.io.IOException;
import java.lang.reflect.Constructor;
import java.lang.reflect.Field;
import java.lang.reflect.Method;
import java.lang.reflect.Modifier;
import java.nio.file.Files;
import java.nio.file.Path;
import java.util.Set;
import java.util.TreeSet;
import java.util.regex.Matcher;
import java.util.regex.Pattern;

/** The public face is the document's, no more; and the words that LANGUAGE.md rules out do not stand in the file. */
public final class FaceTest {
    private static final Path SOURCE = Path.of("src/main/java/RubbleCity.java");
    private static final Path DOCUMENT = Path.of("../shared/DOC.md");

    public static void main(String[] args) throws IOException {
        face();
        members();
        words();
        Check.end();
    }

    private static void face() throws IOException {
        Set<String> due = new TreeSet<>();
        Matcher told = Pattern.compile("public (int|long) (\\w+)\\(([^)]*)\\);").matcher(Files.readString(DOCUMENT));
        while (told.find()) {
            StringBuilder types = new StringBuilder();
            for (String parameter : told.group(3).split(",\\s*")) {
                types.append(parameter.split(" ")[0]).append(' ');
            }
            due.add(told.group(1) + " " + told.group(2) + " " + types.toString().trim());
        }
        Set<String> got = new TreeSet<>();
        for (Method method : RubbleCity.class.getDeclaredMethods()) {
            if (Modifier.isPublic(method.getModifiers())) {
                StringBuilder types = new StringBuilder();
                for (Class<?> type : method.getParameterTypes()) {
                    types.append(type).append(' ');
                }
                got.add(method.getReturnType() + " " + method.getName() + " " + types.toString().trim());
            }
        }
        Check.due("methods of the face " + due + " " + got, due.equals(got) ? 1 : 0, 1);
        Check.due("how many", due.size(), 45);
        Check.due("NONE", RubbleCity.NONE, -1);
        Check.due("BAD", RubbleCity.BAD, -2);
        Check.due("STATE", RubbleCity.STATE, -3);
        Check.due("FULL", RubbleCity.FULL, -4);
        Check.due("NO", RubbleCity.NO, -(1L << 62));
    }

    private static void members() {
        Check.due("public and final", RubbleCity.class.getModifiers(), Modifier.PUBLIC | Modifier.FINAL);
        Set<String> names = new TreeSet<>();
        for (Method method : RubbleCity.class.getDeclaredMethods()) {
            if (Modifier.isPublic(method.getModifiers())) {
                names.add(method.getName());
            }
        }
        for (Method method : RubbleCity.class.getDeclaredMethods()) {
            boolean isPrivate = Modifier.isPrivate(method.getModifiers());
            Check.due(method + " public or private", isPrivate || Modifier.isPublic(method.getModifiers()) ? 1 : 0, 1);
            Check.due(method + " name", isPrivate && names.contains(method.getName()) ? 1 : 0, 0);
            Check.due(method + " parameters", method.getParameterCount() <= 7 ? 1 : 0, 1);
        }
        for (Field field : RubbleCity.class.getDeclaredFields()) {
            boolean isFace = Set.of("NONE", "BAD", "STATE", "FULL", "NO").contains(field.getName());
            int due = isFace ? Modifier.PUBLIC : Modifier.PRIVATE;
            Check.due(field.toString(), field.getModifiers() & (Modifier.PUBLIC | Modifier.PROTECTED | Modifier.PRIVATE), due);
        }
        Constructor<?>[] made = RubbleCity.class.getDeclaredConstructors();
        Check.due("constructors", made.length, 1);
        Check.due("its parameters", made[0].getParameterCount(), 0);
        Class<?>[] inside = RubbleCity.class.getDeclaredClasses();
        Check.due("classes", inside.length <= 12 ? 1 : 0, 1);
        for (Class<?> each : inside) {
            Check.due(each + " static", Modifier.isStatic(each.getModifiers()) ? 1 : 0, 1);
            int fields = 0;
            for (Field field : each.getDeclaredFields()) {
                boolean isStatic = Modifier.isStatic(field.getModifiers());
                fields += isStatic ? 0 : 1;
                Check.due(field + " final", isStatic && !Modifier.isFinal(field.getModifiers()) ? 1 : 0, 0);
            }
            Check.due(each + " fields", fields <= 20 ? 1 : 0, 1);
        }
    }

    private static void words() throws IOException {
        String source = Files.readString(SOURCE);
        String code = source.replaceAll("(?s)/\\*.*?\\*/", " ").replaceAll("//[^\n]*", " ");
        String[] ruledOut = {"throw", "throws", "try", "catch", "synchronized", "assert", "protected", "package",
            "\\w*Exact", "hashCode", "toString", "Object", "volatile", "transient", "native", "var"};
        for (String word : ruledOut) {
            Check.due("'" + word + "'", Pattern.compile("\\b" + word + "\\b").matcher(code).find() ? 1 : 0, 0);
        }
        Check.due("lambda", code.contains("->") ? 1 : 0, 0);
        Check.due("method reference", code.contains("::") ? 1 : 0, 0);
        Check.due("a sign above 127", Pattern.compile("[^\\x00-\\x7F]").matcher(source).find() ? 1 : 0, 0);
        Matcher imports = Pattern.compile("import ([^;]+);").matcher(code);
        while (imports.find()) {
            Check.due("import " + imports.group(1), imports.group(1).equals("java.util.Arrays") ? 1 : 0, 1);
        }
    }
}
