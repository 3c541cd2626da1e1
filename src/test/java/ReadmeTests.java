import java.lang.reflect.InvocationTargetException;
import java.lang.reflect.Method;
import java.lang.reflect.Modifier;
import java.nio.file.Files;
import java.nio.file.Path;
import java.util.List;
import java.util.regex.Matcher;
import java.util.regex.Pattern;

/** The example in README.md: each of its calls must answer what the comment behind it begins with. */
public final class ReadmeTests {
    private static final Pattern PUT = Pattern.compile("put\\(x, \"(.*)\"\\);");
    private static final Pattern CALL = Pattern.compile("x\\.(\\w+)\\(([-0-9, ]*)\\); +// (throws )?([^ :]+).*");

    private ReadmeTests() {
    }

    public static void main(String[] args) throws Exception {
        List<String> lines = Files.readAllLines(Path.of("README.md"));
        int line = lines.indexOf("WhoKnows x = new WhoKnows();") + 1;
        Check.same("README.md has an example", line > 0, true);
        WhoKnows x = new WhoKnows();
        for (; line > 0 && !lines.get(line).equals("```"); line++) {
            Matcher put = PUT.matcher(lines.get(line));
            Matcher call = CALL.matcher(lines.get(line));
            if (put.matches()) {
                Check.put(x, put.group(1));
            } else if (call.matches()) {
                String due = (call.group(3) == null ? "" : "throws.") + call.group(4);
                Check.same("README.md: " + lines.get(line), answer(x, call.group(1), call.group(2)).toString(), due);
            } else {
                Check.same("a line of the example in README.md", lines.get(line), "a call with its answer");
            }
        }
        everyMethodIsNamed(String.join("\n", lines));
        Check.end("ReadmeTests");
    }

    private static Object answer(WhoKnows x, String name, String numbers) throws Exception {
        String[] parts = numbers.isBlank() ? new String[0] : numbers.split(", *");
        Object[] values = new Object[parts.length];
        Class<?>[] types = new Class<?>[parts.length];
        for (int index = 0; index < parts.length; index++) {
            values[index] = Integer.valueOf(parts[index]);
            types[index] = int.class;
        }
        Method method = WhoKnows.class.getMethod(name, types);
        return Check.answer(() -> {
            try {
                return method.invoke(x, values);
            } catch (InvocationTargetException e) {
                throw (Exception) e.getCause();
            }
        });
    }

    private static void everyMethodIsNamed(String text) {
        for (Method method : WhoKnows.class.getDeclaredMethods()) {
            if (Modifier.isPublic(method.getModifiers())) {
                boolean isNamed = text.contains("`" + method.getName() + "`")
                        || text.contains("`" + method.getName() + "()`");
                Check.same("README.md names " + method.getName(), isNamed, true);
            }
        }
    }
}
