import java.io.IOException;
import java.lang.reflect.InvocationTargetException;
import java.lang.reflect.Method;
import java.nio.file.Files;
import java.nio.file.Path;
import java.util.regex.Matcher;
import java.util.regex.Pattern;

/** README.md: each call of its example answers, or throws, what stands beside it. */
public final class ReadmeTest {
    private static final String FIRST = "ShadowMath x = new ShadowMath();";
    private static final Pattern CALL = Pattern.compile("x\\.(\\w+)\\(([^)]*)\\); +// (.*)");
    private static final String NOTHING = "nothing";

    public static void main(String[] args) throws IOException {
        String readme = Files.readString(Path.of("README.md"));
        int start = readme.indexOf("```java\n" + FIRST + "\n");
        Check.due("place of the example", start < 0 ? 0 : 1, 1);
        if (start >= 0) {
            String example = readme.substring(readme.indexOf(FIRST, start), readme.indexOf("\n```", start));
            run(example.split("\n"));
        }
        namesWhatIsToBeRun(readme);
        Check.end();
    }

    private static void run(String[] lines) {
        ShadowMath x = new ShadowMath();
        Check.due("the example has few lines", lines.length < 10 ? 1 : 0, 0);
        for (int i = 1; i < lines.length; i++) {
            Matcher call = CALL.matcher(lines[i]);
            if (call.matches()) {
                String got = answer(x, call.group(1), call.group(2).split(", *"));
                boolean asTold = got.equals(told(call.group(3)));
                Check.due(lines[i] + " got " + got, asTold ? 1 : 0, 1);
            } else {
                Check.due("a call: " + lines[i], 0, 1);
            }
        }
    }

    /** What the words beside a call say that it answers. */
    private static String told(String words) {
        if (words.startsWith("throws ")) {
            return words;
        }
        Matcher number = Pattern.compile("(-?\\d+)(:.*)?").matcher(words);
        return number.matches() ? number.group(1) : NOTHING;
    }

    private static String answer(ShadowMath x, String name, String[] words) {
        try {
            for (Method m : ShadowMath.class.getMethods()) {
                if (m.getName().equals(name)) {
                    Object got = m.invoke(x, arguments(m, words));
                    return got == null ? NOTHING : got.toString();
                }
            }
            return "no such call";
        } catch (InvocationTargetException e) {
            return "throws " + e.getCause().getClass().getSimpleName();
        } catch (IllegalAccessException e) {
            return "not public";
        }
    }

    private static Object[] arguments(Method m, String[] words) {
        Class<?>[] types = m.getParameterTypes();
        Object[] arguments = new Object[types.length];
        for (int i = 0; i < types.length; i++) {
            if (types[i] == boolean.class) {
                arguments[i] = Boolean.valueOf(words[i]);
            } else {
                arguments[i] = Integer.valueOf(words[i]);
            }
        }
        return arguments;
    }

    private static void namesWhatIsToBeRun(String readme) throws IOException {
        Check.due("README.md names .ci/run", readme.contains(".ci/run") ? 1 : 0, 1);
        try (var files = Files.newDirectoryStream(Path.of("src/test/java"), "*Test.java")) {
            for (Path file : files) {
                String name = file.getFileName().toString().replace(".java", "");
                Check.due("README.md names " + name, readme.contains("`" + name + "`") ? 1 : 0, 1);
            }
        }
    }
}
