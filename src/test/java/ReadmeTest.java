import java.io.File;
import java.lang.reflect.InvocationTargetException;
import java.lang.reflect.Method;
import java.lang.reflect.Modifier;
import java.nio.charset.StandardCharsets;
import java.nio.file.Files;
import java.nio.file.Path;
import java.util.HashMap;
import java.util.List;
import java.util.Map;
import java.util.regex.Matcher;
import java.util.regex.Pattern;

/** README.md: its examples answer what it says, and it names all calls and all tests. */
public final class ReadmeTest {
    private static final String NEW = "OneEarOfTwo ear = new OneEarOfTwo();";
    private static final Pattern ROW = Pattern.compile("ear\\.(\\w+)\\((.*)\\);\\s*// (-?\\d+)(:.*)?");

    public static void main(String[] args) throws Exception {
        List<String> lines = Files.readAllLines(Path.of("README.md"), StandardCharsets.UTF_8);
        Map<String, Method> face = new HashMap<>();
        for (Method m : OneEarOfTwo.class.getDeclaredMethods()) if (Modifier.isPublic(m.getModifiers())) face.put(m.getName(), m);
        examples(lines, face);
        String text = String.join("\n", lines);
        for (String name : face.keySet()) {
            Checks.due("`" + name + "` is named", text.contains("`" + name + "`") ? 1 : 0, 1);
            Checks.due("an example of " + name, text.contains("ear." + name + "(") ? 1 : 0, 1);
        }
        File[] tests = new File("src/test/java").listFiles((dir, name) -> name.endsWith("Test.java"));
        for (File test : tests == null ? new File[0] : tests) {
            String name = test.getName().replace(".java", "");
            Checks.due(name + " is named", text.contains("`" + name + "`") ? 1 : 0, 1);
        }
        Checks.due("tests are there", tests != null && tests.length > 0 ? 1 : 0, 1);
        Checks.end("ReadmeTest");
    }

    private static void examples(List<String> lines, Map<String, Method> face) throws Exception {
        OneEarOfTwo ear = null;
        int blocks = 0;
        boolean inside = false;
        for (String line : lines) {
            if (line.startsWith("```")) {
                inside = line.equals("```java");
                if (inside) blocks++;
                ear = null;
            } else if (inside && line.equals(NEW)) {
                ear = new OneEarOfTwo();
            } else if (inside) {
                example(ear, line, face);
            }
        }
        Checks.due("examples", blocks, 5);
    }

    private static void example(OneEarOfTwo ear, String line, Map<String, Method> face) throws IllegalAccessException {
        Matcher row = ROW.matcher(line);
        Method called = row.matches() ? face.get(row.group(1)) : null;
        if (ear == null || called == null) {
            Checks.fault("not a row of an example: " + line);
            return;
        }
        String[] told = row.group(2).isEmpty() ? new String[0] : row.group(2).split(", ");
        if (told.length != called.getParameterCount()) {
            Checks.fault("not as many arguments: " + line);
            return;
        }
        Object[] given = new Object[told.length];
        for (int i = 0; i < told.length; i++) {
            int v = told[i].startsWith("'") ? told[i].charAt(1) : Integer.parseInt(told[i]);
            // by reflection an int does for an int alone, a long for a long
            if (called.getParameterTypes()[i] == long.class) given[i] = (long) v;
            else given[i] = v;
        }
        try {
            Checks.due(line, ((Number) called.invoke(ear, given)).longValue(), Long.parseLong(row.group(3)));
        } catch (InvocationTargetException e) {
            Checks.fault(line + " threw " + e.getCause());
        }
    }
}
