import java.io.IOException;
import java.lang.reflect.Constructor;
import java.lang.reflect.Field;
import java.lang.reflect.Method;
import java.lang.reflect.Modifier;
import java.nio.file.Files;
import java.nio.file.Path;
import java.util.List;
import java.util.TreeSet;
import java.util.regex.Matcher;
import java.util.regex.Pattern;

/** The rules of ../shared/LANGUAGE.md that can be looked at in the text: sizes, names of the library, ways to write. */
public final class LanguageTest {
    private static final Path SOURCE = Path.of("src/main/java/Vivahouse.java");
    private static final Check CHECK = new Check("LanguageTest");

    private LanguageTest() {
    }

    public static void main(String[] args) throws IOException {
        List<String> lines = Files.readAllLines(SOURCE);
        String code = withoutComments(lines);
        libraryUsed(code);
        waysToWrite(code);
        exceptions(code);
        lengths(lines);
        sizes();
        CHECK.end();
    }

    private static String withoutComments(List<String> lines) {
        return String.join("\n", lines).replaceAll("(?s)/\\*.*?\\*/", "").replaceAll("//[^\n]*", "");
    }

    private static TreeSet<String> all(String code, String pattern) {
        TreeSet<String> found = new TreeSet<>();
        Matcher m = Pattern.compile(pattern).matcher(code);
        while (m.find()) {
            found.add(m.group(1));
        }
        return found;
    }

    private static void libraryUsed(String code) {
        CHECK.same("imports", all(code, "import ([\\w.]+);").toString(),
                "[java.util.ArrayList, java.util.NoSuchElementException]");
        CHECK.same("static functions", all(code, "\\b((?:Math|Integer|Long|System|Arrays)\\.\\w+)").toString(),
                "[Integer.bitCount, Math.abs, Math.max]");
        CHECK.same("package", code.contains("package "), false);
    }

    private static void waysToWrite(String code) {
        String[] ruledOut = {
            "->", "::", "\\bcatch\\b", "\\bfinally\\b", "\\bassert\\b", "\\bsynchronized\\b", "\\bvar\\b", "\"",
            "@\\w+", "\\bstatic \\{", "\\bequals\\(", "\\bhashCode\\b", "\\btoString\\b", "\\binstanceof\\b",
        };
        for (String pattern : ruledOut) {
            CHECK.same(pattern + " is ruled out or not needed", Pattern.compile(pattern).matcher(code).find(), false);
        }
    }

    private static void exceptions(String code) {
        CHECK.same("what is thrown", all(code, "throw new (\\w+)\\(\\);").toString(),
                "[ArithmeticException, IllegalArgumentException, IllegalStateException, IndexOutOfBoundsException,"
                        + " NoSuchElementException, UnsupportedOperationException]");
        CHECK.same("nothing else is", all(code, "(throw (?!new \\w+\\(\\);)[^\n]*)").toString(), "[]");
    }

    private static void lengths(List<String> lines) {
        String end = null;
        int begin = 0;
        int methods = 0;
        for (int i = 0; i < lines.size(); i++) {
            String line = lines.get(i);
            CHECK.same("line " + (i + 1) + " is of 120 characters at most", line.length() <= 120, true);
            if (end == null && isHead(line)) {
                end = line.substring(0, line.indexOf(line.strip())) + "}";
                begin = i;
            } else if (line.equals(end)) {
                CHECK.same("the method of line " + (begin + 1) + " is short", i - begin < 60, true);
                end = null;
                methods++;
            }
        }
        CHECK.same("the last method has an end", end == null, true);
        CHECK.same("all " + methods + " of them are looked at", methods > 100, true);
    }

    private static boolean isHead(String line) {
        boolean isMember = line.matches(" {4}(public|private|static) .*\\(.*[^;]");
        boolean isMemberInside = line.matches(" {8}(?!if|for|while|switch)\\w+ ?\\w*\\(.*\\) \\{");
        return isMember || isMemberInside;
    }

    private static void sizes() {
        Class<?>[] inside = Vivahouse.class.getDeclaredClasses();
        CHECK.same("some twelve classes", inside.length <= 12, true);
        sizeOf(Vivahouse.class);
        for (Class<?> c : inside) {
            CHECK.same(c + " is private", Modifier.isPrivate(c.getModifiers()), true);
            CHECK.same(c + " is static", Modifier.isStatic(c.getModifiers()), true);
            sizeOf(c);
        }
    }

    private static void sizeOf(Class<?> c) {
        int fields = 0;
        for (Field f : c.getDeclaredFields()) {
            boolean isStatic = Modifier.isStatic(f.getModifiers());
            boolean isConstant = Modifier.isFinal(f.getModifiers()) && f.getType().isPrimitive();
            CHECK.same(f + " is of the object, or a constant", !isStatic || isConstant, true);
            fields += isStatic ? 0 : 1;
        }
        CHECK.same(c + " has some twenty fields", fields <= 20, true);
        for (Method m : c.getDeclaredMethods()) {
            CHECK.same(m + " has at most seven parameters", m.getParameterCount() <= 7, true);
        }
        for (Constructor<?> made : c.getDeclaredConstructors()) {
            CHECK.same(made + " has at most seven parameters", made.getParameterCount() <= 7, true);
        }
    }
}
