import java.io.IOException;
import java.lang.reflect.Constructor;
import java.lang.reflect.Field;
import java.lang.reflect.Method;
import java.lang.reflect.Modifier;
import java.nio.file.Files;
import java.nio.file.Path;
import java.util.TreeSet;
import java.util.regex.Matcher;
import java.util.regex.Pattern;

/** The public face, and the language rules that can be seen without reading the whole program. */
public final class FaceTest {
    private static final String PROGRAM = "src/main/java/TwinVolume.java";
    private static final String[] METHODS = {
        "int write(int,int,int)", "boolean barrier(int)", "int deliver(int)", "int store(int,int)",
        "int copy(int)", "int connect()", "boolean cut()", "boolean crash(int)", "boolean restart(int)",
        "int promote(int)", "int demote(int)", "boolean discard(int)", "int disk(int,int)", "int fate(int)",
        "int state(int)", "long generation(int)", "int map(int)", "int log(int,int)", "int traffic(int)"};
    private static final String[] CONSTANTS = {
        "BAD", "DOWN", "SECONDARY", "FULL", "BUSY", "UNSOUND", "RIVAL", "SPLIT", "LINKED", "BACKWARD"};
    private static final String FORBIDDEN =
            "\\b(throw|throws|try|catch|synchronized|assert|import|package|protected|volatile|transient|native"
            + "|System|Thread|Random|Exception|hashCode|toString|equals|Object)\\b|->|::";

    private static final Check check = new Check("face");

    public static void main(String[] args) throws IOException, IllegalAccessException {
        check.due("the class is public and final",
                Modifier.isPublic(TwinVolume.class.getModifiers()) && Modifier.isFinal(TwinVolume.class.getModifiers()),
                true);
        methods();
        constants();
        Constructor<?>[] constructors = TwinVolume.class.getDeclaredConstructors();
        check.due("constructors", constructors.length, 1);
        check.due("the constructor is public", Modifier.isPublic(constructors[0].getModifiers()), true);
        check.due("its parameters", constructors[0].getParameterCount(), 0);
        classesInside();
        words();
        check.end();
    }

    private static void methods() {
        TreeSet<String> open = new TreeSet<>();
        TreeSet<String> names = new TreeSet<>();
        for (Method method : TwinVolume.class.getDeclaredMethods()) {
            if (!Modifier.isPrivate(method.getModifiers())) {
                open.add(signature(method));
                names.add(method.getName());
                check.due(method + " is public", Modifier.isPublic(method.getModifiers()), true);
            }
        }
        check.due("methods", open.toString(), new TreeSet<>(java.util.List.of(METHODS)).toString());
        for (Method method : TwinVolume.class.getDeclaredMethods()) {
            check.due(method + " bears a public name",
                    Modifier.isPrivate(method.getModifiers()) && names.contains(method.getName()), false);
        }
    }

    private static String signature(Method method) {
        StringBuilder text = new StringBuilder(method.getReturnType().getName());
        text.append(' ').append(method.getName()).append('(');
        String gap = "";
        for (Class<?> type : method.getParameterTypes()) {
            text.append(gap).append(type.getName());
            gap = ",";
        }
        return text.append(')').toString();
    }

    private static void constants() throws IllegalAccessException {
        TreeSet<String> open = new TreeSet<>();
        for (Field field : TwinVolume.class.getDeclaredFields()) {
            if (Modifier.isStatic(field.getModifiers())) {
                check.due(field + " is final", Modifier.isFinal(field.getModifiers()), true);
            }
            if (!Modifier.isPrivate(field.getModifiers())) {
                open.add(field.getName());
            }
        }
        check.due("constants", open.toString(), new TreeSet<>(java.util.List.of(CONSTANTS)).toString());
        for (int k = 0; k < CONSTANTS.length; k++) {
            for (Field field : TwinVolume.class.getFields()) {
                if (field.getName().equals(CONSTANTS[k])) {
                    check.due(CONSTANTS[k], field.getInt(null), -1 - k);
                }
            }
        }
    }

    private static void classesInside() {
        Class<?>[] inside = TwinVolume.class.getDeclaredClasses();
        check.due("classes are at most twelve", inside.length < 12, true);
        for (Class<?> type : inside) {
            check.due(type + " is static", Modifier.isStatic(type.getModifiers()), true);
            check.due(type + " is not public", Modifier.isPublic(type.getModifiers()), false);
            int fields = 0;
            for (Field field : type.getDeclaredFields()) {
                fields += Modifier.isStatic(field.getModifiers()) ? 0 : 1;
            }
            check.due(type + " has some twenty fields", fields <= 20, true);
        }
    }

    private static void words() throws IOException {
        String text = Files.readString(Path.of(PROGRAM)).replaceAll("(?s)/\\*.*?\\*/|//[^\n]*", "");
        Matcher found = Pattern.compile(FORBIDDEN).matcher(text);
        while (found.find()) {
            check.due("the program has " + found.group(), true, false);
        }
        for (char letter : text.toCharArray()) {
            check.due("a letter beyond 255", letter > 255, false);
        }
    }
}
