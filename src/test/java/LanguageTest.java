import java.io.IOException;
import java.lang.reflect.Constructor;
import java.lang.reflect.Field;
import java.lang.reflect.Method;
import java.lang.reflect.Modifier;
import java.nio.file.Files;
import java.nio.file.Path;
import java.util.ArrayList;
import java.util.Arrays;
import java.util.List;
import java.util.TreeSet;
import java.util.regex.Matcher;
import java.util.regex.Pattern;

/** The face as the document tells it, and those rules of ../shared/LANGUAGE.md that can be seen from outside. */
final class LanguageTest {
    private static final String[] FACE = {
        "int add()", "int alike(int,int,int)", "int bestMerger(int,int)", "int code(int,int,int,int)", "int count(int)",
        "int deafest()", "int distance(int,int)", "int drawer(int,int,int)", "int drop(int)", "int ear(int)",
        "int fault()", "int find(int,int,int)", "int habits(int,int)", "int hear(int,int,int)",
        "int ifMerged(int,int,int,int)", "int merge(int,int,int)", "int name(int,int)", "int of(int,int,int)",
        "int ofEar(int,int)", "int put(long)", "int quarrel(int,int)", "int restore(int)", "int save(int)",
        "int second(int,int,int)", "int set(int,int)", "int split(int)", "int undo()", "int wipe()"
    };
    private static final String CONSTANTS =
        "[BAD_TEXT=-3, BAD_VALUE=-2, LENGTH=0, NAMES=1, NONE=-6, NOT_POSSIBLE=-5, NO_SUCH=-1, TOO_MANY=-4]";
    private static final String[] FORBIDDEN = {
        "throw", "throws", "try", "catch", "finally", "synchronized", "assert", "import", "package", "Object", "Integer\\.valueOf",
        "->", "::", "\\w+Exact", "equals", "hashCode", "toString", "public class", "protected", "System\\.(?!arraycopy)"
    };

    private LanguageTest() { }

    static void run(Path source) throws IOException, IllegalAccessException {
        face();
        constants();
        privateMembers();
        words(source);
    }

    private static void face() {
        Check.part("the public face");
        TreeSet<String> methods = new TreeSet<>();
        for (Method method : ConsonantIndex.class.getDeclaredMethods()) {
            if (Modifier.isPrivate(method.getModifiers()) || method.isSynthetic()) continue;
            String types = String.join(",", Arrays.stream(method.getParameterTypes()).map(Class::getName).toList());
            methods.add(method.getReturnType() + " " + method.getName() + "(" + types + ")");
            Check.due(method.getName() + " is public and nothing else", method.getModifiers(), Modifier.PUBLIC);
        }
        Check.due("methods", methods.toString(), new TreeSet<>(Arrays.asList(FACE)).toString());
        Constructor<?>[] constructors = ConsonantIndex.class.getDeclaredConstructors();
        Check.due("constructors", constructors.length, 1);
        Check.due("its parameters", constructors[0].getParameterCount(), 0);
        Check.due("modifiers of the class", ConsonantIndex.class.getModifiers(), Modifier.PUBLIC | Modifier.FINAL);
    }

    private static void constants() throws IllegalAccessException {
        Check.part("the constants");
        TreeSet<String> constants = new TreeSet<>();
        for (Field field : ConsonantIndex.class.getDeclaredFields()) {
            if (Modifier.isPrivate(field.getModifiers()) || field.isSynthetic()) continue;
            int due = Modifier.PUBLIC | Modifier.STATIC | Modifier.FINAL;
            Check.due("modifiers of " + field.getName(), field.getModifiers(), due);
            constants.add(field.getName() + "=" + field.getInt(null));
        }
        Check.due("constants", constants.toString(), CONSTANTS);
    }

    private static void privateMembers() {
        Check.part("LANGUAGE.md, rules 1, 2, 5 and 11");
        List<String> open = new ArrayList<>();
        for (Method method : ConsonantIndex.class.getDeclaredMethods()) {
            if (!Modifier.isPrivate(method.getModifiers())) open.add(method.getName());
        }
        List<Class<?>> classes = new ArrayList<>(Arrays.asList(ConsonantIndex.class.getDeclaredClasses()));
        Check.due("at most twelve classes", classes.size() < 12 ? 1 : 0, 1);
        for (Class<?> inside : classes) {
            Check.due(inside + " is static", Modifier.isStatic(inside.getModifiers()) ? 1 : 0, 1);
            Check.due(inside + " is hidden", inside.getModifiers() & (Modifier.PUBLIC | Modifier.PROTECTED), 0);
        }
        classes.add(ConsonantIndex.class);
        for (Class<?> each : classes) {
            int fields = 0;
            for (Field field : each.getDeclaredFields()) {
                boolean isStatic = Modifier.isStatic(field.getModifiers());
                Check.due(field + " is final if static", !isStatic || Modifier.isFinal(field.getModifiers()) ? 1 : 0, 1);
                if (!isStatic) fields++;
            }
            Check.due("at most twenty fields in " + each, fields <= 20 ? 1 : 0, 1);
            for (Method method : each.getDeclaredMethods()) {
                boolean hidden = each != ConsonantIndex.class || Modifier.isPrivate(method.getModifiers());
                Check.due(method + " has a name of its own", hidden && open.contains(method.getName()) ? 1 : 0, 0);
                Check.due(method + " has few parameters", method.getParameterCount() <= 7 ? 1 : 0, 1);
            }
        }
    }

    private static void words(Path source) throws IOException {
        Check.part("LANGUAGE.md, words of the class");
        String code = Files.readString(source).replaceAll("(?s)/\\*.*?\\*/", "").replaceAll("//[^\n]*", "");
        for (String word : FORBIDDEN) {
            String bounded = Character.isLetter(word.charAt(0)) ? "\\b" + word + "(?!\\w)" : word;
            Matcher matcher = Pattern.compile(bounded).matcher(code);
            Check.due("how often it has " + word, matcher.find() ? 1 : 0, 0);
        }
        Check.due("objects are made in fields and the constructor alone", objectsMadeByCalls(code), "");
    }

    /** The lines that make an object, beside fields with a first value and the constructors. */
    private static String objectsMadeByCalls(String code) {
        StringBuilder lines = new StringBuilder();
        for (String line : code.split("\n")) {
            if (!line.matches(".*\\bnew\\b.*")) continue;
            boolean field = line.matches("\\s*(private )?final \\S+ \\w+ = new .*");
            boolean constructor = line.matches("\\s*for \\(int i = 0; i < \\w+\\.length; i\\+\\+\\) \\w+\\[i\\] = new \\w+\\(\\);");
            if (!field && !constructor) lines.append(line).append('\n');
        }
        return lines.toString();
    }
}
