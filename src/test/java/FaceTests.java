import java.lang.reflect.Constructor;
import java.lang.reflect.Field;
import java.lang.reflect.Method;
import java.lang.reflect.Modifier;
import java.util.Arrays;
import java.util.Set;
import java.util.TreeSet;

/** The class shows the face of the document and nothing else (rule 1 of the language). */
public final class FaceTests {
    private static final String[] FACE = {
        "int append(int, int, int, int, int) IllegalStateException",
        "int truncate(int) IllegalArgumentException",
        "int readText() IllegalArgumentException",
        "int runOrders() IllegalArgumentException",
        "int ask() IllegalArgumentException",
        "int errorCode()",
        "int errorPosition()",
        "int size(int) IllegalArgumentException",
        "int letter(boolean, int, int) IndexOutOfBoundsException",
        "int sees(int) IndexOutOfBoundsException",
        "int worlds()",
        "int alike(int, int) IndexOutOfBoundsException",
        "int kinds(int) IndexOutOfBoundsException",
        "int doubts(int) IndexOutOfBoundsException",
        "int reach(int) IndexOutOfBoundsException",
        "int steps(int, int) IndexOutOfBoundsException",
        "boolean holds(int) IndexOutOfBoundsException",
        "int truth()",
        "int who()",
        "int whether()",
        "boolean isCommon()",
        "int level()",
        "int unlike()",
        "int knowsFact(int, int) IndexOutOfBoundsException",
        "int knowers()",
        "int wouldLeave()",
        "int wouldSay(int) IndexOutOfBoundsException",
        "int wouldKnow(int) IllegalArgumentException",
        "int roundsTo(int) IndexOutOfBoundsException",
        "int bestFact()",
        "int leastShown(int) IndexOutOfBoundsException",
        "int log(int, int) IllegalArgumentException",
        "int account(int) IllegalArgumentException",
        "int gap()",
        "float share()",
        "double meanAlike()",
        "int announce()",
        "int say(int) IndexOutOfBoundsException",
        "int whisper(int) IllegalArgumentException",
        "int show(int, int) IndexOutOfBoundsException",
        "int round(int) IndexOutOfBoundsException",
        "int writeWorld(int) IndexOutOfBoundsException",
        "int writeKinds(int) IndexOutOfBoundsException",
        "int writeQuestion()",
        "int outputByte(int)",
        "int undo()",
        "int save()",
        "int restore() IllegalStateException",
    };

    private FaceTests() {
    }

    public static void main(String[] args) {
        Class<?> type = WhoKnows.class;
        Check.same("modifiers of the class", Modifier.toString(type.getModifiers()), "public final");
        Set<String> face = new TreeSet<>();
        Set<String> publicNames = new TreeSet<>();
        Set<String> privateNames = new TreeSet<>();
        for (Method method : type.getDeclaredMethods()) {
            if (Modifier.isPrivate(method.getModifiers())) {
                privateNames.add(method.getName());
            } else {
                Check.same("modifiers of " + method, Modifier.toString(method.getModifiers()), "public");
                face.add(described(method));
                publicNames.add(method.getName());
            }
        }
        Check.same("the face", face, new TreeSet<>(Arrays.asList(FACE)));
        for (Class<?> inner : type.getDeclaredClasses()) {
            Check.same("static " + inner, Modifier.isStatic(inner.getModifiers()), true);
            Check.same("hidden " + inner, (inner.getModifiers() & (Modifier.PUBLIC | Modifier.PROTECTED)) == 0, true);
            for (Method method : inner.getDeclaredMethods()) {
                privateNames.add(method.getName());
            }
        }
        privateNames.retainAll(publicNames);
        Check.same("private methods with the name of a public one", privateNames, new TreeSet<String>());
        fields(type);
        Constructor<?>[] constructors = type.getDeclaredConstructors();
        Check.same("constructors", Arrays.toString(constructors), "[public WhoKnows()]");
        Check.same("NONE", WhoKnows.NONE, -1);
        Check.same("COMMON", WhoKnows.COMMON, 99);
        Check.end("FaceTests");
    }

    private static void fields(Class<?> type) {
        Set<String> shown = new TreeSet<>();
        for (Field field : type.getDeclaredFields()) {
            if (!Modifier.isPrivate(field.getModifiers())) {
                shown.add(field.toString());
            } else if (Modifier.isStatic(field.getModifiers())) {
                Check.same("final " + field, Modifier.isFinal(field.getModifiers()), true);
            }
        }
        Check.same("the constants", shown, new TreeSet<>(Arrays.asList(
                "public static final int WhoKnows.NONE", "public static final int WhoKnows.COMMON")));
    }

    private static String described(Method method) {
        StringBuilder text = new StringBuilder(method.getReturnType() + " " + method.getName() + "(");
        for (Class<?> parameter : method.getParameterTypes()) {
            text.append(text.charAt(text.length() - 1) == '(' ? "" : ", ").append(parameter);
        }
        text.append(")");
        for (Class<?> thrown : method.getExceptionTypes()) {
            text.append(" ").append(thrown.getSimpleName());
        }
        return text.toString();
    }
}
