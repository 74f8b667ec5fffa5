import java.io.IOException;
import java.lang.reflect.Constructor;
import java.lang.reflect.Field;
import java.lang.reflect.Method;
import java.lang.reflect.Modifier;
import java.nio.file.Files;
import java.nio.file.Path;
import java.util.ArrayList;
import java.util.Arrays;
import java.util.List;
import java.util.TreeSet;
import java.util.regex.Matcher;
import java.util.regex.Pattern;

/** The face as the document tells it, and those rules of ../shared/LANGUAGE.md that can be seen from outside. */
final class LanguageTest {
    private static final String[] FORBIDDEN = {
        "throw", "throws", "try", "catch", "finally", "synchronized", "assert", "import", "package", "Object", "Integer\\.valueOf",
        "->", "::", "\\w+Exact", "equals", "hashCode", "toString", "public class", "protected", "System\\.(?!arraycopy)"
    };

    private LanguageTest() { }

    static void run(Path source, Path document) throws IOException, IllegalAccessException {
        List<String> face = faceOf(Files.readString(document));
        faceInSource(face, Files.readString(source));
        methods(face);
        constants(face);
        privateMembers();
        words(source);
    }

    /** The lines of the document's face, without the words that all of them have. */
    private static List<String> faceOf(String document) {
        Check.part("the public face");
        Matcher block = Pattern.compile("(?s)## The public face\\s+```java\n(.*?)```").matcher(document);
        Check.due("the document tells the face", block.find() ? 1 : 0, 1);
        List<String> lines = new ArrayList<>();
        for (String line : block.group(1).split("\n")) {
            if (line.endsWith(";")) lines.add(line.trim());
        }
        Check.due("lines of the face", lines.size(), 2 + 1 + 28);
        return lines;
    }

    /** Each line stands in the source as the document has it, with the same names of parameters. */
    private static void faceInSource(List<String> face, String source) {
        Check.due("the class", source.contains("\npublic final class ConsonantIndex {\n") ? 1 : 0, 1);
        for (String line : face) {
            String due = line.contains("(") ? line.replace(";", " {") : line;
            Check.due("lines \"" + due + "\"", source.split(Pattern.quote("\n    " + due + "\n"), -1).length - 1, 1);
        }
        Check.due("lines that are public", source.split("\n *public ", -1).length - 1, face.size() + 1);
    }

    private static void methods(List<String> face) {
        TreeSet<String> due = new TreeSet<>();
        for (String line : face) {
            Matcher method = Pattern.compile("public (int \\w+)\\((.*)\\);").matcher(line);
            if (method.matches()) due.add(method.group(1) + "(" + method.group(2).replaceAll(" \\w+(, )?", ",") + ")");
        }
        TreeSet<String> methods = new TreeSet<>();
        for (Method method : ConsonantIndex.class.getDeclaredMethods()) {
            if (Modifier.isPrivate(method.getModifiers()) || method.isSynthetic()) continue;
            StringBuilder types = new StringBuilder();
            for (Class<?> type : method.getParameterTypes()) types.append(type.getName()).append(',');
            methods.add(method.getReturnType() + " " + method.getName() + "(" + types + ")");
            Check.due(method.getName() + " is public and nothing else", method.getModifiers(), Modifier.PUBLIC);
        }
        Check.due("methods", methods.toString(), due.toString());
        Constructor<?>[] constructors = ConsonantIndex.class.getDeclaredConstructors();
        Check.due("constructors", constructors.length, 1);
        Check.due("its parameters", constructors[0].getParameterCount(), 0);
        Check.due("its modifiers", constructors[0].getModifiers(), Modifier.PUBLIC);
        Check.due("modifiers of the class", ConsonantIndex.class.getModifiers(), Modifier.PUBLIC | Modifier.FINAL);
    }

    private static void constants(List<String> face) throws IllegalAccessException {
        TreeSet<String> due = new TreeSet<>();
        for (String line : face) {
            Matcher constant = Pattern.compile("(\\w+) = (-?\\d+)").matcher(line);
            while (constant.find()) due.add(constant.group(1) + "=" + constant.group(2));
        }
        TreeSet<String> constants = new TreeSet<>();
        for (Field field : ConsonantIndex.class.getDeclaredFields()) {
            if (Modifier.isPrivate(field.getModifiers()) || field.isSynthetic()) continue;
            int modifiers = Modifier.PUBLIC | Modifier.STATIC | Modifier.FINAL;
            Check.due("modifiers of " + field.getName(), field.getModifiers(), modifiers);
            constants.add(field.getName() + "=" + field.getInt(null));
        }
        Check.due("constants", constants.toString(), due.toString());
    }

    private static void privateMembers() {
        Check.part("LANGUAGE.md, rules 1, 2, 5 and 11");
        List<String> open = new ArrayList<>();
        for (Method method : ConsonantIndex.class.getDeclaredMethods()) {
            if (!Modifier.isPrivate(method.getModifiers())) open.add(method.getName());
        }
        List<Class<?>> classes = new ArrayList<>(Arrays.asList(ConsonantIndex.class.getDeclaredClasses()));
        Check.due("at most twelve classes", classes.size() < 12 ? 1 : 0, 1);
        for (Class<?> inside : classes) {
            Check.due(inside + " is static", Modifier.isStatic(inside.getModifiers()) ? 1 : 0, 1);
            Check.due(inside + " is hidden", inside.getModifiers() & (Modifier.PUBLIC | Modifier.PROTECTED), 0);
        }
        classes.add(ConsonantIndex.class);
        for (Class<?> each : classes) {
            int fields = 0;
            for (Field field : each.getDeclaredFields()) {
                boolean isStatic = Modifier.isStatic(field.getModifiers());
                Check.due(field + " is final if static", !isStatic || Modifier.isFinal(field.getModifiers()) ? 1 : 0, 1);
                if (!isStatic) fields++;
            }
            Check.due("at most twenty fields in " + each, fields <= 20 ? 1 : 0, 1);
            for (Method method : each.getDeclaredMethods()) {
                boolean hidden = each != ConsonantIndex.class || Modifier.isPrivate(method.getModifiers());
                Check.due(method + " has a name of its own", hidden && open.contains(method.getName()) ? 1 : 0, 0);
                Check.due(method + " has few parameters", method.getParameterCount() <= 7 ? 1 : 0, 1);
            }
        }
    }

    private static void words(Path source) throws IOException {
        Check.part("LANGUAGE.md, words of the class");
        String code = Files.readString(source).replaceAll("(?s)/\\*.*?\\*/", "").replaceAll("//[^\n]*", "");
        for (String word : FORBIDDEN) {
            String bounded = Character.isLetter(word.charAt(0)) ? "\\b" + word + "(?!\\w)" : word;
            Matcher matcher = Pattern.compile(bounded).matcher(code);
            Check.due("how often it has " + word, matcher.find() ? 1 : 0, 0);
        }
        Check.due("objects are made in fields and the constructor alone", objectsMadeByCalls(code), "");
    }

    /** The lines that make an object, beside fields with a first value and the constructors. */
    private static String objectsMadeByCalls(String code) {
        StringBuilder lines = new StringBuilder();
        for (String line : code.split("\n")) {
            if (!line.matches(".*\\bnew\\b.*")) continue;
            boolean field = line.matches("\\s*(private )?final \\S+ \\w+ = new .*");
            boolean constructor = line.matches("\\s*for \\(int i = 0; i < \\w+\\.length; i\\+\\+\\) \\w+\\[i\\] = new \\w+\\(\\);");
            if (!field && !constructor) lines.append(line).append('\n');
        }
        return lines.toString();
    }
}
