import java.lang.reflect.Field;
import java.lang.reflect.Method;
import java.lang.reflect.Modifier;
import java.util.regex.Matcher;
import java.util.regex.Pattern;

/** README.md: its example answers as it says, and it tells every call and every constant. */
final class ReadmeTest {
    private static final Pattern CALL = Pattern.compile("beach\\.(\\w+)\\(([^)]*)\\); +// (-?\\w+).*");

    private ReadmeTest() {
    }

    static void test(Check check, String readme) throws ReflectiveOperationException {
        check.begin("README.md");
        example(check, readme);
        for (Method method : BeachBars.class.getMethods()) {
            if (method.getDeclaringClass() == BeachBars.class) {
                String head = "\n\\| `" + method.getName() + "\\(" + "\\w+, ".repeat(method.getParameterCount());
                check.holds("a row for " + method.getName(),
                        Pattern.compile(head.replaceFirst(", $", "") + "\\)`").matcher(readme).find());
            }
        }
        for (Field field : BeachBars.class.getFields()) {
            check.holds("a row for " + field.getName(),
                    readme.contains("\n| `" + field.getName() + "` | " + field.getInt(null) + " |"));
        }
    }

    private static void example(Check check, String readme) throws ReflectiveOperationException {
        int from = readme.indexOf("```java\n");
        int to = readme.indexOf("\n```\n", from);
        check.holds("there is an example", from >= 0 && to >= 0);
        if (from < 0 || to < 0) {
            return;
        }
        String[] lines = readme.substring(from + "```java\n".length(), to).split("\n");
        check.holds("it makes a beach first", lines[0].equals("BeachBars beach = new BeachBars();"));
        BeachBars beach = new BeachBars();
        for (int i = 1; i < lines.length; i++) {
            Matcher matcher = CALL.matcher(lines[i]);
            boolean isCall = matcher.matches();
            check.holds("a call and its answer: " + lines[i], isCall);
            if (isCall) {
                check.due(lines[i], answer(beach, matcher.group(1), matcher.group(2)), number(matcher.group(3)));
            }
        }
    }

    private static int number(String told) throws ReflectiveOperationException {
        return told.matches("[A-Z_]+") ? BeachBars.class.getField(told).getInt(null) : Integer.parseInt(told);
    }

    private static int answer(BeachBars beach, String name, String told) throws ReflectiveOperationException {
        String[] words = told.isEmpty() ? new String[0] : told.split(", ");
        for (Method method : BeachBars.class.getMethods()) {
            if (method.getName().equals(name) && method.getParameterCount() == words.length) {
                Object[] arguments = new Object[words.length];
                for (int i = 0; i < words.length; i++) {
                    arguments[i] = argument(method.getParameterTypes()[i], words[i]);
                }
                return (int) method.invoke(beach, arguments);
            }
        }
        throw new NoSuchMethodException(name);
    }

    private static Object argument(Class<?> type, String word) {
        if (type == char.class) {
            return word.charAt(1);
        }
        if (type == boolean.class) {
            return Boolean.parseBoolean(word);
        }
        return Integer.parseInt(word);
    }
}
