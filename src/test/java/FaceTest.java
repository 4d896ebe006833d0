import java.io.IOException;
import java.lang.reflect.Constructor;
import java.lang.reflect.Field;
import java.lang.reflect.Method;
import java.lang.reflect.Modifier;
import java.nio.file.Files;
import java.nio.file.Path;
import java.util.Arrays;
import java.util.Set;
import java.util.TreeSet;
import java.util.regex.Matcher;
import java.util.regex.Pattern;
import java.util.stream.Collectors;

/** The class shows just the document's face. */
public final class FaceTest {
    private static final String[] FACE = {
        "int paint(int, int, int, int, int) INDEX ARGUMENT",
        "int lamp(int, int, int) ARGUMENT",
        "int spoil(int, int, int) INDEX ARGUMENT",
        "int map(int, int, boolean) INDEX",
        "int take(int, int) ARGUMENT STATE",
        "int merge(int, int) ARGUMENT STATE",
        "int edit(int, int, int) INDEX ARGUMENT STATE",
        "int undo(int) INDEX",
        "int save(int) INDEX STATE",
        "int raw(int, int, int) INDEX",
        "double picture(int, int, int, int) INDEX ARGUMENT",
        "int word(int) INDEX",
        "int ofFrame(int, int) INDEX ARGUMENT",
        "int ofEdit(int, int, int) INDEX ARGUMENT",
        "double zone(int, int) INDEX",
        "double meter(int) INDEX",
        "int ofFile(int, int) INDEX ARGUMENT",
        "int ofPlace(int, int, int) INDEX ARGUMENT",
        "int many(int) ARGUMENT",
        "double apart(int, int) INDEX",
        "int wouldClip(int, int) ARGUMENT",
        "int bestTake(int) ARGUMENT",
        "int bestWhite(int, int) INDEX ARGUMENT",
        "long digest()",
    };

    public static void main(String[] args) throws IOException {
        Class<?> face = BayerGate.class;
        Checks.same("the class is public and final", face.getModifiers(), Modifier.PUBLIC | Modifier.FINAL);
        Set<String> shown = new TreeSet<>();
        Set<String> hidden = new TreeSet<>();
        for (Method method : face.getDeclaredMethods()) {
            if (Modifier.isPrivate(method.getModifiers())) {
                hidden.add(method.getName());
            } else {
                Checks.same("modifiers of " + method, method.getModifiers(), Modifier.PUBLIC);
                shown.add(told(method));
            }
        }
        Checks.same("methods", shown, new TreeSet<>(Arrays.asList(FACE)));
        for (Method method : face.getDeclaredMethods()) {
            boolean isBoth = Modifier.isPublic(method.getModifiers()) && hidden.contains(method.getName());
            Checks.same("a private " + method.getName(), isBoth, false);
        }
        Constructor<?>[] constructors = face.getDeclaredConstructors();
        Checks.same("constructors", constructors.length, 1);
        Checks.same("constructor", constructors[0].toString(), "public BayerGate()");
        Checks.same("the document's face", faceOf(Files.readString(Path.of(args[1]))), new TreeSet<>(Arrays.asList(FACE)));
        fieldsOf(face);
        for (Class<?> inside : face.getDeclaredClasses()) {
            Checks.same("static " + inside, Modifier.isStatic(inside.getModifiers()), true);
            Checks.same("private " + inside, Modifier.isPrivate(inside.getModifiers()), true);
            fieldsOf(inside);
        }
        Checks.end();
    }

    /** The calls as the document's "The public face" tells them, in the words of FACE. */
    private static Set<String> faceOf(String document) {
        Set<String> told = new TreeSet<>();
        Matcher line = Pattern.compile("(?m)^    public (\\w+ \\w+)\\((.*)\\)(?: throws (.*))?;$").matcher(document);
        while (line.find()) {
            String takes = line.group(2).replaceAll("(\\w+) \\w+", "$1");
            String thrown = line.group(3) == null ? "" : ", " + line.group(3);
            told.add(line.group(1) + "(" + takes + ")" + thrown.replace(", IndexOutOfBoundsException", " INDEX")
                .replace(", IllegalArgumentException", " ARGUMENT").replace(", IllegalStateException", " STATE"));
        }
        return told;
    }

    private static void fieldsOf(Class<?> type) {
        for (Field field : type.getDeclaredFields()) {
            Checks.same("private " + field, Modifier.isPrivate(field.getModifiers()), true);
            boolean isShared = Modifier.isStatic(field.getModifiers()) && !Modifier.isFinal(field.getModifiers());
            Checks.same("shared state " + field, isShared, false);
        }
    }

    private static String told(Method method) {
        String takes = Arrays.stream(method.getParameterTypes()).map(Class::getName).collect(Collectors.joining(", "));
        StringBuilder text = new StringBuilder();
        text.append(method.getReturnType()).append(' ').append(method.getName()).append('(').append(takes).append(')');
        for (Class<?> thrown : method.getExceptionTypes()) {
            text.append(thrown == Cameras.INDEX ? " INDEX" : thrown == Cameras.ARGUMENT ? " ARGUMENT"
                : thrown == Cameras.STATE ? " STATE" : " " + thrown);
        }
        return text.toString();
    }
}
