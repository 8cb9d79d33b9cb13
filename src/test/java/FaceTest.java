import java.lang.reflect.Constructor;
import java.lang.reflect.Executable;
import java.lang.reflect.Field;
import java.lang.reflect.Method;
import java.lang.reflect.Modifier;
import java.util.Set;
import java.util.TreeSet;

/** The document's face and rule 1 of the language: these members are public, and all others private. */
public final class FaceTest {
    private static final String INDEX = " IndexOutOfBoundsException";
    private static final String BOTH = " IllegalArgumentException IndexOutOfBoundsException";
    private static final Set<String> FACE = Set.of(
            "void set(int,int,int)" + INDEX,
            "void op(int,int,int,int)" + BOTH,
            "void store(int,int,int)" + BOTH,
            "void load(int,int,int,boolean)" + BOTH,
            "int value(int)" + INDEX,
            "int not(int)" + INDEX,
            "int least(int)" + INDEX,
            "int greatest(int)" + INDEX,
            "int octet(int)" + INDEX,
            "int count()");

    public static void main(String[] args) {
        Check.due("class is public and final", ShadowMath.class.getModifiers(), Modifier.PUBLIC | Modifier.FINAL);
        Check.due("class extends Object", ShadowMath.class.getSuperclass() == Object.class ? 1 : 0, 1);
        constructors();
        methods();
        fields();
        Check.end();
    }

    private static void constructors() {
        Constructor<?>[] all = ShadowMath.class.getDeclaredConstructors();
        Check.due("number of constructors", all.length, 1);
        Check.due("constructor's parameters", all[0].getParameterCount(), 0);
        Check.due("constructor is public", all[0].getModifiers(), Modifier.PUBLIC);
    }

    private static void methods() {
        Set<String> face = new TreeSet<>();
        Set<String> publicNames = new TreeSet<>();
        for (Method m : ShadowMath.class.getDeclaredMethods()) {
            if (!Modifier.isPrivate(m.getModifiers())) {
                Check.due("modifiers of " + m, m.getModifiers(), Modifier.PUBLIC);
                face.add(m.getReturnType() + " " + m.getName() + told(m));
                publicNames.add(m.getName());
            }
        }
        Check.due("face is the document's: " + face, face.equals(FACE) ? 1 : 0, 1);
        for (Method m : ShadowMath.class.getDeclaredMethods()) {
            if (Modifier.isPrivate(m.getModifiers())) {
                Check.due(m + " has a public one's name", publicNames.contains(m.getName()) ? 1 : 0, 0);
            }
        }
    }

    private static String told(Executable e) {
        StringBuilder text = new StringBuilder("(");
        for (Class<?> type : e.getParameterTypes()) {
            text.append(text.length() == 1 ? "" : ",").append(type);
        }
        text.append(')');
        for (Class<?> type : e.getExceptionTypes()) {
            text.append(' ').append(type.getSimpleName());
        }
        return text.toString();
    }

    private static void fields() {
        for (Field f : ShadowMath.class.getDeclaredFields()) {
            Check.due(f + " is private", Modifier.isPrivate(f.getModifiers()) ? 1 : 0, 1);
            boolean changes = Modifier.isStatic(f.getModifiers()) && !Modifier.isFinal(f.getModifiers());
            Check.due(f + " is static and may change", changes ? 1 : 0, 0);
        }
    }
}
