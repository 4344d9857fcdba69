import java.io.IOException;
import java.lang.reflect.Field;
import java.lang.reflect.InvocationTargetException;
import java.lang.reflect.Method;
import java.lang.reflect.Modifier;
import java.nio.file.Files;
import java.nio.file.Path;
import java.util.List;
import java.util.regex.Matcher;
import java.util.regex.Pattern;
import java.util.stream.Collectors;
import java.util.stream.Stream;

/** README.md: its examples answer what it says, and it names all that there is to name. */
public final class ReadmeTest {
    private static final Pattern CALL = Pattern.compile("x\\.(\\w+)\\((.*?)\\); +// (throws \\w+|-?\\w+)(:? .*)?");

    public static void main(String[] args) throws IOException, ReflectiveOperationException {
        String readme = Files.readString(Path.of("README.md"));
        examplesAnswer(readme);
        allIsNamed(readme);
        Kit.end("ReadmeTest");
    }

    private static void examplesAnswer(String readme) throws ReflectiveOperationException {
        PatternWorkshop x = null;
        boolean within = false;
        int calls = 0;
        for (String line : readme.lines().collect(Collectors.toList())) {
            if (line.startsWith("```")) {
                within = line.equals("```java");
            } else if (within && line.equals("PatternWorkshop x = new PatternWorkshop();")) {
                x = new PatternWorkshop();
            } else if (within) {
                Matcher call = CALL.matcher(line);
                Kit.due("a call and its answer: " + line, call.matches() && x != null, true);
                if (call.matches() && x != null) {
                    Kit.due(line, answer(x, call.group(1), call.group(2)), due(call.group(3)));
                    calls++;
                }
            }
        }
        Kit.due("the examples have calls", calls > 0 && calls <= 512, true);
    }

    private static String answer(PatternWorkshop x, String name, String args) throws ReflectiveOperationException {
        Method method = Stream.of(PatternWorkshop.class.getMethods()).filter(m -> m.getName().equals(name)).findAny().get();
        String[] texts = args.isEmpty() ? new String[0] : args.split(", ");
        Object[] values = new Object[texts.length];
        for (int i = 0; i < texts.length; i++) {
            values[i] = value(texts[i], method.getParameterTypes()[i]);
        }
        try {
            Object got = method.invoke(x, values);
            return String.valueOf(got instanceof Character ? (int) (Character) got : got);
        } catch (InvocationTargetException e) {
            return "throws " + e.getCause().getClass().getSimpleName();
        }
    }

    private static Object value(String text, Class<?> type) {
        if (type == boolean.class) {
            return Boolean.valueOf(text);
        }
        long number;
        if (text.startsWith("'")) {
            number = text.charAt(1);
        } else if (text.startsWith("0b")) {
            number = Long.parseLong(text.substring(2), 2);
        } else {
            number = Long.decode(text.endsWith("L") ? text.substring(0, text.length() - 1) : text);
        }
        return type == long.class ? (Object) number : (Object) (int) number;
    }

    /** A number, the name of a constant, or what is thrown. */
    private static String due(String told) throws ReflectiveOperationException {
        boolean isName = Character.isUpperCase(told.charAt(0));
        return isName ? String.valueOf(PatternWorkshop.class.getField(told).getInt(null)) : told;
    }

    private static void allIsNamed(String readme) throws IOException, ReflectiveOperationException {
        for (Method method : PatternWorkshop.class.getDeclaredMethods()) {
            if (Modifier.isPublic(method.getModifiers())) {
                Kit.due("README.md names " + method.getName() + "()", readme.contains(method.getName() + "("), true);
            }
        }
        for (Field field : PatternWorkshop.class.getFields()) {
            Kit.due("README.md names " + field.getName(), readme.contains("`" + field.getName() + "`"), true);
            boolean value = readme.contains("`" + field.getName() + "` | " + field.getInt(null) + " |")
                    || readme.contains("`" + field.getName() + "` (" + field.getInt(null) + ")");
            Kit.due("README.md tells the value of " + field.getName(), value, true);
        }
        for (Class<?> inside : PatternWorkshop.class.getDeclaredClasses()) {
            Kit.due("README.md names " + inside.getSimpleName(), readme.contains("`" + inside.getSimpleName() + "`"), true);
        }
        for (String test : tests()) {
            Kit.due("README.md names " + test, readme.contains("`" + test + "`"), true);
        }
    }

    private static List<String> tests() throws IOException {
        try (Stream<Path> files = Files.list(Path.of("src/test/java"))) {
            return files.map(f -> f.getFileName().toString()).filter(f -> f.endsWith("Test.java"))
                    .map(f -> f.substring(0, f.length() - ".java".length())).collect(Collectors.toList());
        }
    }
}
