import java.io.IOException;
import java.nio.file.Files;
import java.nio.file.Path;
import java.util.regex.Matcher;
import java.util.regex.Pattern;

/** The example of the README: each of its calls answers what its comment begins with. */
final class ReadmeTest {
    private static final Pattern CALL = Pattern.compile("index\\.(\\w+)\\(([^)]*)\\); *// (-?\\d+).*");

    private ReadmeTest() { }

    static void run(Path readme) throws IOException, ReflectiveOperationException {
        Check.part("README.md");
        Matcher block = Pattern.compile("(?s)```java\\n(.*?)```").matcher(Files.readString(readme));
        Check.due("it has an example", block.find() ? 1 : 0, 1);
        String[] lines = block.group(1).split("\n");
        Check.due("how it begins", lines[0], "ConsonantIndex index = new ConsonantIndex();");
        ConsonantIndex index = new ConsonantIndex();
        for (int i = 1; i < lines.length; i++) {
            Matcher call = CALL.matcher(lines[i]);
            Check.due("\"" + lines[i] + "\" is a call with its answer", call.matches() ? 1 : 0, 1);
            Check.due(lines[i], ModelTest.answer(index, call.group(1), arguments(call.group(2))), Long.parseLong(call.group(3)));
        }
    }

    private static Object[] arguments(String told) throws ReflectiveOperationException {
        if (told.isEmpty()) return new Object[0];
        String[] words = told.split(", ");
        Object[] arguments = new Object[words.length];
        for (int i = 0; i < words.length; i++) arguments[i] = argument(words[i]);
        return arguments;
    }

    /** A long as 0x..L, a constant of the class by its name, or an int. */
    private static Object argument(String word) throws ReflectiveOperationException {
        String constant = ConsonantIndex.class.getName() + ".";
        if (word.startsWith(constant)) return ConsonantIndex.class.getField(word.substring(constant.length())).getInt(null);
        if (word.endsWith("L")) return Long.decode(word.substring(0, word.length() - 1));
        return Integer.decode(word);
    }
}
