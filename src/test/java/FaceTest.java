import java.lang.reflect.Constructor;
import java.lang.reflect.Field;
import java.lang.reflect.Method;
import java.lang.reflect.Modifier;
import java.nio.file.Files;
import java.nio.file.Path;
import java.util.Set;
import java.util.TreeSet;
import java.util.regex.Matcher;
import java.util.regex.Pattern;

/** The class has the document's face and no more, and its text keeps to what can be seen of LANGUAGE.md. */
public final class FaceTest {
    private static final Set<String> FACE = Set.of(
        "meeting/1", "feed/5", "end/1", "record/1", "fault/0", "of/2", "holder/2", "due/2", "done/2", "asked/3",
        "word/3", "stands/2", "state/2", "changes/3", "theirs/3", "late/2", "quarrels/1", "turned/2", "count/1",
        "status/0");
    private static final String FORBIDDEN =
        "\\b(throw|try|catch|synchronized|assert|throws|volatile|transient|native|var)\\b|->|::|[a-z]+Exact\\(";

    public static void main(String[] args) throws Exception {
        methods();
        fields();
        constructors();
        nested();
        text();
        Talk.due("NONE", AgreedTalks.NONE, -1);
        Talk.close("FaceTest");
    }

    private static void methods() {
        Set<String> found = new TreeSet<>();
        Set<String> names = new TreeSet<>();
        for (String entry : FACE) {
            names.add(entry.substring(0, entry.indexOf('/')));
        }
        for (Method method : AgreedTalks.class.getDeclaredMethods()) {
            boolean isPrivate = Modifier.isPrivate(method.getModifiers());
            if (isPrivate) {
                Talk.due("private " + method.getName() + " bears a public name", names.contains(method.getName()) ? 1 : 0, 0);
            } else {
                found.add(method.getName() + "/" + method.getParameterCount());
                boolean isPlain = method.getModifiers() == Modifier.PUBLIC && method.getReturnType() == int.class;
                Talk.due(method.getName() + " is public and answers an int", isPlain ? 1 : 0, 1);
            }
        }
        Talk.due("methods " + found, found.equals(FACE) ? 1 : 0, 1);
    }

    private static void fields() {
        for (Field field : AgreedTalks.class.getDeclaredFields()) {
            int modifiers = field.getModifiers();
            boolean isNone = field.getName().equals("NONE");
            Talk.due(field.getName() + " is public", Modifier.isPublic(modifiers) ? 1 : 0, isNone ? 1 : 0);
            Talk.due(field.getName() + " is private", Modifier.isPrivate(modifiers) ? 1 : 0, isNone ? 0 : 1);
            boolean isFree = Modifier.isStatic(modifiers) && !Modifier.isFinal(modifiers);
            Talk.due(field.getName() + " is static and not final", isFree ? 1 : 0, 0);
        }
    }

    private static void constructors() {
        Constructor<?>[] constructors = AgreedTalks.class.getDeclaredConstructors();
        Talk.due("constructors", constructors.length, 1);
        Talk.due("parameters of the constructor", constructors[0].getParameterCount(), 0);
        Talk.due("the constructor is public", Modifier.isPublic(constructors[0].getModifiers()) ? 1 : 0, 1);
        int modifiers = AgreedTalks.class.getModifiers();
        Talk.due("the class is public and final", modifiers == (Modifier.PUBLIC | Modifier.FINAL) ? 1 : 0, 1);
    }

    private static void nested() {
        Class<?>[] classes = AgreedTalks.class.getDeclaredClasses();
        Talk.due("twelve classes at most", classes.length < 12 ? 1 : 0, 1);
        for (Class<?> nested : classes) {
            Talk.due(nested.getName() + " is static", Modifier.isStatic(nested.getModifiers()) ? 1 : 0, 1);
            Talk.due(nested.getName() + " is public", Modifier.isPublic(nested.getModifiers()) ? 1 : 0, 0);
            Talk.due(nested.getName() + " has few fields", nested.getDeclaredFields().length <= 20 ? 1 : 0, 1);
        }
    }

    private static void text() throws Exception {
        String source = Files.readString(Path.of("src/main/java/AgreedTalks.java"));
        String code = source.replaceAll("(?s)/\\*.*?\\*/", "").replaceAll("//[^\n]*", "").replaceAll("\"[^\"]*\"", "\"\"");
        Matcher forbidden = Pattern.compile(FORBIDDEN).matcher(code);
        while (forbidden.find()) {
            Talk.due("'" + forbidden.group() + "' stands in the code", 1, 0);
        }
        Matcher imports = Pattern.compile("(?m)^import (.*);$").matcher(code);
        while (imports.find()) {
            boolean isListed = Set.of("java.util.ArrayList", "java.util.Arrays", "java.util.List").contains(imports.group(1));
            Talk.due("import of " + imports.group(1) + " is listed", isListed ? 1 : 0, 1);
        }
        Talk.due("a package line", code.contains("package ") ? 1 : 0, 0);
    }
}
