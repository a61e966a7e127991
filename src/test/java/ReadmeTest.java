import java.io.IOException;
import java.lang.reflect.InvocationTargetException;
import java.lang.reflect.Method;
import java.nio.file.Files;
import java.nio.file.Path;
import java.util.regex.Matcher;
import java.util.regex.Pattern;

/** The example in README.md: each call answers what its comment begins with. */
final class ReadmeTest {
    private static final Pattern CALL =
            Pattern.compile("x\\.(\\w+)\\(([-\\d, ]*)\\); +// (throws \\w+|-?\\w+).*");

    public static void main(String[] args) throws IOException, IllegalAccessException {
        String readme = Files.readString(Path.of("README.md"));
        LoopLifter x = new LoopLifter();
        String[] lines = part(readme, "java").split("\n");
        Check.same("the first line", lines[0], "LoopLifter x = new LoopLifter();");
        for (int i = 1; i < lines.length; i++) {
            Matcher call = CALL.matcher(lines[i]);
            Check.same("a call with its answer: " + lines[i], call.matches(), true);
            if (call.matches()) {
                Check.same(lines[i], answer(x, call.group(1), call.group(2)), call.group(3));
            }
        }
        StringBuilder text = new StringBuilder();
        for (int i = 0; i < x.count(4); i++) {
            text.append(x.text(i));
        }
        Check.same("the text", text.toString(), part(readme, "text").trim());
        Check.end();
    }

    private static String part(String readme, String kind) {
        String opening = "```" + kind + "\n";
        int start = readme.indexOf(opening) + opening.length();
        return readme.substring(start, readme.indexOf("```", start));
    }

    private static String answer(LoopLifter x, String name, String arguments) throws IllegalAccessException {
        for (Method method : LoopLifter.class.getMethods()) {
            if (method.getName().equals(name)) {
                try {
                    return "" + method.invoke(x, numbers(arguments));
                } catch (InvocationTargetException e) {
                    return "throws " + e.getCause().getClass().getSimpleName();
                }
            }
        }
        return "no such call";
    }

    private static Object[] numbers(String arguments) {
        String[] words = arguments.isEmpty() ? new String[0] : arguments.split(", *");
        Object[] numbers = new Object[words.length];
        for (int i = 0; i < words.length; i++) {
            numbers[i] = Integer.valueOf(words[i]);
        }
        return numbers;
    }
}
