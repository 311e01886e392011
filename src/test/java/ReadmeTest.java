import java.lang.reflect.Method;
import java.lang.reflect.Modifier;
import java.nio.file.Files;
import java.nio.file.Path;
import java.util.regex.Matcher;
import java.util.regex.Pattern;

/** README.md's example answers what it says, and its table has every call. */
public final class ReadmeTest {
    private static final Pattern CALL = Pattern.compile("(?m)^talks\\.(\\w+)\\((.*?)\\); +// (-?\\d+):");

    public static void main(String[] args) throws Exception {
        String readme = Files.readString(Path.of("README.md"));
        example(readme);
        table(readme);
        Talk.close("ReadmeTest");
    }

    private static void example(String readme) throws Exception {
        AgreedTalks talks = new AgreedTalks();
        Matcher call = CALL.matcher(readme);
        int calls = 0;
        while (call.find()) {
            calls++;
            int got = (int) method(call.group(1)).invoke(talks, numbers(call.group(2)));
            Talk.due(call.group(), got, Integer.parseInt(call.group(3)));
        }
        Talk.due("lines of the example that are calls", calls, readme.split("\ntalks\\.").length - 1);
        Talk.due("there is an example", calls > 0 ? 1 : 0, 1);
    }

    private static void table(String readme) {
        for (Method method : AgreedTalks.class.getDeclaredMethods()) {
            if (Modifier.isPublic(method.getModifiers())) {
                Matcher row = Pattern.compile("(?m)^\\| `" + method.getName() + "\\((.*?)\\)` \\| .").matcher(readme);
                boolean isThere = row.find();
                Talk.due("a row for " + method.getName(), isThere ? 1 : 0, 1);
                int names = !isThere || row.group(1).isEmpty() ? 0 : row.group(1).split(",").length;
                Talk.due("arguments of " + method.getName(), names, method.getParameterCount());
            }
        }
    }

    private static Method method(String name) {
        for (Method method : AgreedTalks.class.getDeclaredMethods()) {
            if (method.getName().equals(name) && Modifier.isPublic(method.getModifiers())) {
                return method;
            }
        }
        throw new IllegalStateException("README.md calls " + name + ", which there is not");
    }

    private static Object[] numbers(String arguments) {
        String[] texts = arguments.split(", *");
        Object[] numbers = new Object[texts.length];
        for (int i = 0; i < texts.length; i++) {
            numbers[i] = Integer.decode(texts[i]);
        }
        return numbers;
    }
}
