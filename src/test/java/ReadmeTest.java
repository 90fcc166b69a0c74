import java.io.IOException;
import java.lang.reflect.Method;
import java.lang.reflect.Modifier;
import java.nio.file.Files;
import java.nio.file.Path;
import java.util.regex.Matcher;
import java.util.regex.Pattern;

/** The example of README.md answers as it says there, and README.md names every call and constant. */
public final class ReadmeTest {
    private static final Check CHECK = new Check("ReadmeTest");
    private static final Pattern TEXT = Pattern.compile("\"([^\"]+)\"\\.toCharArray");
    private static final Pattern CALL =
        Pattern.compile("choir\\.(\\w+)\\(([^)]*)\\); +// (-?\\d+)\\b");
    private static final Pattern CONSTANT = Pattern.compile("`([A-Z_]+)` \\((-\\d)\\)");

    public static void main(String[] args) throws IOException, ReflectiveOperationException {
        String page = Files.readString(Path.of("README.md"));
        example(page.substring(page.indexOf("```java"), page.lastIndexOf("```")));
        constants(page);
        for (Method method : LongTones.class.getDeclaredMethods()) {
            if (Modifier.isPublic(method.getModifiers())) {
                CHECK.due("names " + method.getName(), page.contains("`" + method.getName() + "`") ? 1 : 0, 1);
            }
        }
        CHECK.end();
    }

    private static void example(String code) throws ReflectiveOperationException {
        Matcher text = TEXT.matcher(code);
        CHECK.due("the example has a text", text.find() ? 1 : 0, 1);
        LongTones choir = new LongTones();
        Check.typeAll(choir, text.group(1));
        Matcher call = CALL.matcher(code);
        int calls = 0;
        while (call.find()) {
            calls++;
            CHECK.due(call.group(), answer(choir, call.group(1), call.group(2)), Integer.parseInt(call.group(3)));
        }
        CHECK.due("all calls but type tell their answers", calls, code.split("choir\\.").length - 2);
    }

    private static int answer(LongTones choir, String name, String list) throws ReflectiveOperationException {
        String[] words = list.isEmpty() ? new String[0] : list.split(", ");
        Class<?>[] types = new Class<?>[words.length];
        Object[] values = new Object[words.length];
        for (int i = 0; i < words.length; i++) {
            boolean isTruth = words[i].equals("true") || words[i].equals("false");
            types[i] = isTruth ? boolean.class : int.class;
            values[i] = isTruth ? (Object) Boolean.valueOf(words[i]) : (Object) Integer.valueOf(words[i]);
        }
        return (Integer) LongTones.class.getMethod(name, types).invoke(choir, values);
    }

    private static void constants(String page) throws ReflectiveOperationException {
        Matcher constant = CONSTANT.matcher(page);
        int constants = 0;
        while (constant.find()) {
            constants++;
            int value = LongTones.class.getField(constant.group(1)).getInt(null);
            CHECK.due(constant.group(1), value, Integer.parseInt(constant.group(2)));
        }
        CHECK.due("constants told", constants, 5);
    }
}
