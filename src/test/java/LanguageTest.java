import java.lang.reflect.Constructor;
import java.lang.reflect.Field;
import java.lang.reflect.Method;
import java.lang.reflect.Modifier;
import java.nio.charset.StandardCharsets;
import java.nio.file.Files;
import java.nio.file.Path;
import java.util.ArrayList;
import java.util.Arrays;
import java.util.List;
import java.util.Set;
import java.util.TreeSet;
import java.util.regex.Matcher;
import java.util.regex.Pattern;

/** The face, and the rules of ../shared/LANGUAGE.md that a look at the source can tell. */
public final class LanguageTest {
    private static final String[] FACE = {
        "int place(int,int)", "int places(int,int,int)", "int mend(int,int,int)", "int of(int,int)", "int feed(int)",
        "int law()", "int hears(int,int)", "int round(int,int)", "int ifNot(int,int)", "int by(int,int)",
        "int next(int,int,int)", "int stay(int,int)", "int best(int,int,int)", "int giveUp(int,int,int)",
        "int seen(int,int)", "int dead(int)", "int buy(int,int)", "int waits(int)", "int strangers(int,int)",
        "int worn(int)", "int grass(int,int)", "int drawn(int,int,int,int)", "int go(int)", "int listen(int)",
        "int find(int)", "int again()", "int led(int)", "int image()", "int back()", "int undo()", "int redo()",
        "int body(int)", "int act(int,int,int)", "int trace(int)", "int keep(int,int)", "int row(int,int,int)",
        "int put(int,int,long)", "long element(int,int)", "int shift(int,int,int,int,int)", "int taken(int,int)",
        "int count(int)"};

    private static final String[] FORBIDDEN = {
        "\\bthrow\\b", "\\bthrows\\b", "\\btry\\b", "\\bcatch\\b", "\\bfinally\\b", "\\bsynchronized\\b", "\\bassert\\b",
        "\\bimport\\b", "\\bpackage\\b", "->", "::", "\\bhashCode\\b", "\\btoString\\b", "\\bequals\\b", "Exact\\b",
        "\\bfloat\\b", "\\bdouble\\b", "\\bvolatile\\b", "\\bnative\\b", "\\bThread\\b", "\\bvar\\b", "\\\"", "@"};

    public static void main(String[] args) throws Exception {
        face();
        Path source = Path.of(args.length > 0 ? args[0] : "src/main/java/OneEarOfTwo.java");
        String text = Files.readString(source, StandardCharsets.UTF_8);
        words(text);
        classes(text);
        methods(text);
        Checks.end("LanguageTest");
    }

    private static String signature(Method m) {
        StringBuilder text = new StringBuilder(m.getReturnType().getName()).append(' ').append(m.getName()).append('(');
        for (int i = 0; i < m.getParameterCount(); i++) {
            text.append(i > 0 ? "," : "").append(m.getParameterTypes()[i].getName());
        }
        return text.append(')').toString();
    }

    private static void face() {
        Set<String> shown = new TreeSet<>(), hidden = new TreeSet<>(), names = new TreeSet<>();
        for (Method m : OneEarOfTwo.class.getDeclaredMethods()) {
            if (Modifier.isPublic(m.getModifiers())) {
                shown.add(signature(m));
                names.add(m.getName());
            } else if (!Modifier.isPrivate(m.getModifiers())) {
                Checks.fault("1: " + m + " is neither public nor private");
            } else {
                hidden.add(m.getName());
            }
        }
        Checks.due("the methods of the face " + shown, shown.equals(new TreeSet<>(Arrays.asList(FACE))) ? 1 : 0, 1);
        hidden.retainAll(names);
        Checks.due("private methods with public names " + hidden, hidden.size(), 0);
        for (Field f : OneEarOfTwo.class.getDeclaredFields()) {
            boolean ofFace = "BAD NOT FULL STATE VOID".contains(f.getName());
            int wanted = ofFace ? Modifier.PUBLIC : Modifier.PRIVATE;
            Checks.due("1: " + f, f.getModifiers() & (Modifier.PUBLIC | Modifier.PRIVATE | Modifier.PROTECTED), wanted);
        }
        Constructor<?>[] made = OneEarOfTwo.class.getDeclaredConstructors();
        Checks.due("constructors", made.length, 1);
        Checks.due("the class is public and final", OneEarOfTwo.class.getModifiers() & 17, 17);
        for (Class<?> inside : OneEarOfTwo.class.getDeclaredClasses()) {
            Checks.due("2: " + inside + " is static", Modifier.isStatic(inside.getModifiers()) ? 1 : 0, 1);
            for (Method m : inside.getDeclaredMethods()) {
                if (names.contains(m.getName())) Checks.fault("1: " + m + " bears the name of a public one");
            }
        }
    }

    private static String withoutComments(String text) {
        return text.replaceAll("(?s)/\\*.*?\\*/", "").replaceAll("//[^\n]*", "");
    }

    private static void words(String text) {
        String code = withoutComments(text);
        for (String word : FORBIDDEN) {
            Matcher found = Pattern.compile(word).matcher(code);
            if (found.find()) Checks.fault("the source has " + found.group());
        }
        for (int i = 0; i < text.length(); i++) if (text.charAt(i) > 126) Checks.fault("a sign above 126 at " + i);
        Matcher library = Pattern.compile("\\b([A-Z][a-z]\\w*)\\.(\\w+)\\(").matcher(code);
        Set<String> allowed = Set.of("Math.max", "Math.min", "Math.abs", "Integer.bitCount", "System.arraycopy");
        while (library.find()) {
            String call = library.group(1) + "." + library.group(2);
            boolean own = code.contains("class " + library.group(1));
            if (!own && !allowed.contains(call)) Checks.fault("4: " + call);
        }
    }

    private static void classes(String text) throws ClassNotFoundException {
        Class<?>[] inside = OneEarOfTwo.class.getDeclaredClasses();
        Checks.due("11: some twelve classes", inside.length + 1 <= 12 ? 1 : 0, 1);
        List<Class<?>> all = new ArrayList<>(Arrays.asList(inside));
        all.add(OneEarOfTwo.class);
        for (Class<?> one : all) {
            int fields = 0;
            for (Field f : one.getDeclaredFields()) {
                if (!Modifier.isStatic(f.getModifiers())) fields++;
                else if (!Modifier.isFinal(f.getModifiers())) Checks.fault("5: " + f);
            }
            if (fields > 20) Checks.fault("11: " + one + " has " + fields + " fields");
        }
        Checks.due("no other class in the file", Pattern.compile("(?m)^(final |abstract )*class ").matcher(text).find() ? 1 : 0, 0);
    }

    private static void methods(String text) {
        String[] lines = text.split("\n", -1);
        int head = -1;
        for (int i = 0; i < lines.length; i++) {
            if (lines[i].length() > 120) Checks.fault("a long line: " + (i + 1));
            if (lines[i].matches("( {4}| {8})[\\w ].*\\) \\{")) head = i;
            if (lines[i].matches("( {4}| {8})\\}") && head >= 0) {
                if (i - head > 60) Checks.fault("11: a method of " + (i - head) + " lines at " + (head + 1));
                int commas = lines[head].length() - lines[head].replace(",", "").length();
                if (commas > 6) Checks.fault("11: too many parameters at " + (head + 1));
                head = -1;
            }
        }
    }
}
