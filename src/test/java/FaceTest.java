import java.io.IOException;
import java.lang.reflect.Constructor;
import java.lang.reflect.Field;
import java.lang.reflect.Method;
import java.lang.reflect.Modifier;
import java.nio.file.Files;
import java.nio.file.Path;
import java.util.Map;
import java.util.Set;
import java.util.TreeMap;
import java.util.TreeSet;
import java.util.regex.Matcher;
import java.util.regex.Pattern;

/** The public face is that of the document, read from there, and no other member is seen from outside. */
public final class FaceTest {
    private static final Path DOCUMENT = Path.of("../shared/DOC.md");
    private static final Pattern FACE = Pattern.compile("(?s)\n## The public face\n\n```java\n(.*?)\n```\n");
    private static final Pattern METHOD = Pattern.compile("\n {4}public (\\w+) (\\w+)\\(([^)]*)\\)([^;]*);");
    private static final Pattern PROMISE =
            Pattern.compile("\n## Promise (\\d+): (\\w+)\n\n`(\\w+) (\\w+)\\(([^)]*)\\)([^`]*)`: ");
    private static final Check CHECK = new Check("FaceTest");

    private FaceTest() {
    }

    public static void main(String[] args) throws IOException {
        String document = Files.readString(DOCUMENT);
        Map<String, String> told = told(document);
        CHECK.same("methods of the document", told.size(), 47);
        promised(document, told);
        members(told);
        constructor();
        CHECK.end();
    }

    /** The heads of the document's face, by the names of the methods. */
    private static Map<String, String> told(String document) {
        Matcher face = FACE.matcher(document);
        CHECK.same("the document has a face", face.find(), true);
        String text = face.group(1);
        CHECK.same("its class", text.contains("public final class Vivahouse {"), true);
        CHECK.same("its constructor", text.contains("    public Vivahouse();"), true);
        Map<String, String> heads = new TreeMap<>();
        Matcher m = METHOD.matcher(text);
        while (m.find()) {
            heads.put(m.group(2), head(m.group(1), m.group(2), m.group(3), m.group(4)));
        }
        return heads;
    }

    /** Each promise behind that of the new object is of a method of the face, in its words. */
    private static void promised(String document, Map<String, String> told) {
        Set<String> met = new TreeSet<>();
        Matcher m = PROMISE.matcher(document);
        while (m.find()) {
            String name = m.group(4);
            CHECK.same("the title of promise " + m.group(1), m.group(2), name);
            CHECK.same("promise " + m.group(1), head(m.group(3), name, m.group(5), m.group(6)), told.get(name));
            met.add(name);
        }
        CHECK.same("methods with a promise", met.toString(), told.keySet().toString());
    }

    private static String head(String answer, String name, String parameters, String exceptions) {
        String types = parameters.replaceAll(" \\w+(,|$)", "$1").replace(" ", "");
        return answer + " " + name + "(" + types + ")" + exceptions.replace(" throws", "").replace(",", "");
    }

    private static void members(Map<String, String> told) {
        CHECK.same("modifiers of the class", Modifier.toString(Vivahouse.class.getModifiers()), "public final");
        CHECK.same("it is of no other class", Vivahouse.class.getSuperclass() == Object.class
                && Vivahouse.class.getInterfaces().length == 0, true);
        Map<String, String> seen = new TreeMap<>();
        Set<String> hidden = new TreeSet<>();
        for (Method m : Vivahouse.class.getDeclaredMethods()) {
            if (Modifier.isPrivate(m.getModifiers())) {
                hidden.add(m.getName());
            } else {
                CHECK.same("there is one " + m.getName(), seen.put(m.getName(), textOf(m)) == null, true);
                CHECK.same("modifiers of " + m.getName(), Modifier.toString(m.getModifiers()), "public");
            }
        }
        CHECK.same("the face", seen.toString(), told.toString());
        for (Method m : Vivahouse.class.getMethods()) {
            CHECK.same("no private method is named " + m.getName(), hidden.contains(m.getName()), false);
        }
        for (Field f : Vivahouse.class.getDeclaredFields()) {
            CHECK.same(f.getName() + " is private", Modifier.isPrivate(f.getModifiers()), true);
        }
    }

    private static void constructor() {
        Constructor<?>[] made = Vivahouse.class.getDeclaredConstructors();
        CHECK.same("constructors", made.length, 1);
        CHECK.same("parameters of the constructor", made[0].getParameterCount(), 0);
        CHECK.same("exceptions of the constructor", made[0].getExceptionTypes().length, 0);
        CHECK.same("modifiers of the constructor", Modifier.toString(made[0].getModifiers()), "public");
    }

    private static String textOf(Method m) {
        StringBuilder text = new StringBuilder(m.getReturnType().getSimpleName() + " " + m.getName() + "(");
        for (int i = 0; i < m.getParameterCount(); i++) {
            text.append(i == 0 ? "" : ",").append(m.getParameterTypes()[i].getSimpleName());
        }
        text.append(')');
        for (Class<?> thrown : m.getExceptionTypes()) {
            text.append(' ').append(thrown.getSimpleName());
        }
        return text.toString();
    }
}
