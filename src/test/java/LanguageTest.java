import java.io.IOException;
import java.lang.reflect.Field;
import java.lang.reflect.Method;
import java.lang.reflect.Modifier;
import java.nio.file.Files;
import java.nio.file.Path;
import java.util.Map;
import java.util.Set;
import java.util.TreeMap;
import java.util.regex.Matcher;
import java.util.regex.Pattern;

/**
 * The rules of LANGUAGE.md that can be seen in the source or in the compiled class; rule 1 stands
 * in FaceTest. It is stricter than the rules where the class needs less than they allow: no import,
 * no class inside, and no call that makes an object but an exception, for all calls of a run share
 * one room.
 */
public final class LanguageTest {
    private static final int MOST_LINES = 60;
    private static final int MOST_PARAMETERS = 7;
    private static final int MOST_FIELDS = 20;
    private static final int MOST_DEPTH = 8;

    private static final Set<String> NO_WORDS = Set.of(
            "package", "import", "finally", "synchronized", "assert", "volatile", "native", "transient",
            "strictfp", "var", "equals", "hashCode", "toString", "Object", "null", "protected");

    private static final Set<Class<?>> CONSTANTS = Set.of(
            int.class, long.class, boolean.class, char.class, String.class,
            int[].class, long[].class, char[].class, byte[].class);

    private static final String THROW =
            "throw new (IllegalState|IllegalArgument|IndexOutOfBounds|Arithmetic|UnsupportedOperation|NoSuchElement"
            + "|Runtime)Exception\\((\"[^\"]*\")?\\);";
    private static final Pattern METHOD =
            Pattern.compile("(?m)^    (?:public|private) [^=;\\n]*?(\\w+)\\([^\\n]*\\{\\n((?:.*\\n)*?)    \\}$");

    public static void main(String[] args) throws IOException {
        String source = Files.readString(Path.of("src/main/java/ShadowMath.java"));
        textIsPlain(source);
        String code = withoutComments(source);
        wordsAreAllowed(code);
        libraryIsTheListed(code);
        throwsAreWritten(code);
        callsMakeNoObjects(code);
        methodsAreShort(code);
        callsAreNotDeep(code);
        classIsSmall();
        staticsAreConstants();
        Check.end();
    }

    private static void yes(String what, boolean is) {
        Check.due(what, is ? 1 : 0, 1);
    }

    // Rule 3: "Texts hold characters 0 to 255 alone."
    private static void textIsPlain(String source) {
        yes("the source is plain text", source.chars().allMatch(c -> c < 128 && c != '\t' && c != '\r'));
    }

    private static String withoutComments(String source) {
        return source.replaceAll("(?s)/\\*.*?\\*/", "").replaceAll("//.*", "");
    }

    // Rules 2, 6 and the head: no package, lambda, method reference, nor what rule 6 leaves out.
    private static void wordsAreAllowed(String code) {
        yes("no lambda", !code.contains("->"));
        yes("no method reference", !code.contains("::"));
        yes("no annotation", !code.contains("@"));
        yes("no static block", !Pattern.compile("\\bstatic\\s*\\{").matcher(code).find());
        Matcher word = Pattern.compile("\\w+").matcher(code);
        while (word.find()) {
            yes("the word " + word.group(), !NO_WORDS.contains(word.group()));
        }
    }

    // Rule 4, and by it rule 13: "The library: only what stands here."
    private static void libraryIsTheListed(String code) {
        Matcher use = Pattern.compile("\\b([A-Z]\\w*)\\s*\\.\\s*(\\w+)").matcher(code);
        while (use.find()) {
            yes("the library's " + use.group(), isListed(use.group(1), use.group(2)));
        }
    }

    private static boolean isListed(String owner, String member) {
        switch (owner) {
            case "Integer":
            case "Long":
            case "Math": return !member.endsWith("Exact");
            case "System": return member.equals("arraycopy");
            case "Arrays": return Set.of("copyOf", "copyOfRange", "fill").contains(member);
            default: return false;
        }
    }

    // Rule 6: "throw new E() or throw new E("a written text")"
    private static void throwsAreWritten(String code) {
        Matcher word = Pattern.compile("\\bthrow\\b[^;]*;").matcher(code);
        while (word.find()) {
            yes(word.group(), word.group().matches(THROW));
        }
    }

    // Rule 12, and the one room of all calls.
    private static void callsMakeNoObjects(String code) {
        bodies(code).forEach((name, body) -> {
            boolean constructor = name.equals("ShadowMath");
            yes("nothing is made in " + name, constructor || !body.replaceAll(THROW, "").matches("(?s).*\\bnew\\b.*"));
            yes("no throw in " + name, !constructor || !body.contains("throw"));
        });
    }

    /** Of each method and constructor its lines, by its name. */
    private static Map<String, String> bodies(String code) {
        Map<String, String> bodies = new TreeMap<>();
        Matcher method = METHOD.matcher(code);
        while (method.find()) {
            bodies.merge(method.group(1), method.group(2), String::concat);
        }
        return bodies;
    }

    // Rule 11: "Methods stay short (some sixty lines)"
    private static void methodsAreShort(String code) {
        Map<String, String> bodies = bodies(code);
        for (Method m : ShadowMath.class.getDeclaredMethods()) {
            yes("the source of " + m.getName() + " is found", bodies.containsKey(m.getName()));
            yes("few parameters of " + m.getName(), m.getParameterCount() <= MOST_PARAMETERS);
        }
        bodies.forEach((name, body) -> yes(name + " is short", body.lines().count() <= MOST_LINES));
    }

    // Rule 11: "calls that are no recursion go at most eight deep"; rule 8 is not needed.
    private static void callsAreNotDeep(String code) {
        Map<String, String> bodies = bodies(code);
        for (String name : bodies.keySet()) {
            yes("calls of " + name + " are not deep", depth(name, bodies, 1) <= MOST_DEPTH);
        }
    }

    private static int depth(String name, Map<String, String> bodies, int level) {
        int deepest = level;
        if (level <= MOST_DEPTH) {
            for (String other : bodies.keySet()) {
                if (Pattern.compile("(?<![.\\w])" + other + "\\(").matcher(bodies.get(name)).find()) {
                    deepest = Math.max(deepest, depth(other, bodies, level + 1));
                }
            }
        }
        return deepest;
    }

    // Rule 11: "a class some twenty fields beside its constants"
    private static void classIsSmall() {
        int fields = 0;
        for (Field f : ShadowMath.class.getDeclaredFields()) {
            fields += Modifier.isStatic(f.getModifiers()) ? 0 : 1;
        }
        yes("few fields", fields <= MOST_FIELDS);
        Check.due("classes inside", ShadowMath.class.getDeclaredClasses().length, 0);
    }

    // Rule 5: "Static fields are final: constants of int, long, boolean, char or String"
    private static void staticsAreConstants() {
        for (Field f : ShadowMath.class.getDeclaredFields()) {
            if (Modifier.isStatic(f.getModifiers())) {
                yes(f + " is final", Modifier.isFinal(f.getModifiers()));
                yes(f + " is a constant", CONSTANTS.contains(f.getType()));
            }
        }
    }
}
