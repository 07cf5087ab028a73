import java.lang.reflect.InvocationTargetException;
import java.lang.reflect.Method;
import java.util.regex.Matcher;
import java.util.regex.Pattern;

/**
 * Runs calls that are written as in the document's examples: "member(0, 100) = 1; award(0) throws Unsupported". An
 * exception may be written by its beginning. A number ahead of a call says how often it is called; a call without an
 * answer must not throw. MIN and MAX are the least and the greatest int.
 */
final class Script {
    private static final Pattern CALL = Pattern.compile("(?:(\\d+) )?(\\w+)\\(([^)]*)\\)(?: (=|throws) (\\S+))?");
    private static final Class<?>[] EXCEPTIONS = {
        IndexOutOfBoundsException.class, IllegalArgumentException.class, IllegalStateException.class,
        UnsupportedOperationException.class, java.util.NoSuchElementException.class, ArithmeticException.class,
    };

    private final Check check;
    private final String what;
    private final Vivahouse house;

    private Script(Check check, String what, Vivahouse house) {
        this.check = check;
        this.what = what;
        this.house = house;
    }

    static void run(Check check, String what, Vivahouse house, String text) {
        Script script = new Script(check, what, house);
        int expectations = 0;
        for (String part : text.strip().split(";")) {
            expectations += script.runPart(part.strip());
        }
        check.same(what + ": something is due of it", expectations > 0, true);
    }

    /** The outcome of one call without an answer behind it. */
    static String outcomeOf(Vivahouse house, String call) {
        Matcher m = CALL.matcher(call);
        return m.matches() ? Check.outcomeOf(() -> answer(house, m.group(2), m.group(3))) : "no call";
    }

    private int runPart(String part) {
        Matcher m = CALL.matcher(part);
        if (!m.matches()) {
            check.same(what + ": " + part, "no call", "a call");
            return 0;
        }
        int times = m.group(1) == null ? 1 : Integer.parseInt(m.group(1));
        for (int i = 0; i < times; i++) {
            runCall(part, m.group(2), m.group(3), m.group(4), m.group(5));
        }
        return m.group(4) == null ? 0 : 1;
    }

    private void runCall(String part, String name, String arguments, String relation, String due) {
        String label = what + ": " + part;
        Check.Call call = () -> answer(house, name, arguments);
        if ("throws".equals(relation)) {
            check.refuses(label, exceptionNamed(due), house, call);
            return;
        }
        String got = Check.outcomeOf(call);
        boolean isThrown = got.startsWith("throws.") || got.startsWith("machine throws ");
        if (relation == null) {
            check.same(label, isThrown ? got : "an answer", "an answer");
        } else if (!isThrown && due.contains(".")) {
            check.same(label, Double.parseDouble(got), Double.parseDouble(due));
        } else {
            check.same(label, got, due.replace("'", ""));
        }
    }

    private static Class<?> exceptionNamed(String beginning) {
        for (Class<?> e : EXCEPTIONS) {
            if (e.getSimpleName().startsWith(beginning)) {
                return e;
            }
        }
        throw new IllegalArgumentException("no exception is named " + beginning);
    }

    private static Object answer(Vivahouse house, String name, String arguments) {
        String[] texts = arguments.isEmpty() ? new String[0] : arguments.split(", ");
        for (Method m : Vivahouse.class.getMethods()) {
            if (m.getName().equals(name) && m.getParameterCount() == texts.length) {
                Object[] values = new Object[texts.length];
                for (int i = 0; i < texts.length; i++) {
                    values[i] = valueOf(texts[i], m.getParameterTypes()[i]);
                }
                return answer(house, m, values);
            }
        }
        throw new IllegalArgumentException("no method is named " + name);
    }

    private static Object answer(Vivahouse house, Method m, Object[] values) {
        try {
            return m.invoke(house, values);
        } catch (InvocationTargetException e) {
            throw (RuntimeException) e.getCause();
        } catch (IllegalAccessException e) {
            throw new IllegalStateException(e);
        }
    }

    private static Object valueOf(String text, Class<?> type) {
        if (type == char.class) {
            return text.charAt(1);
        }
        if (type == boolean.class) {
            return Boolean.valueOf(text);
        }
        if (text.equals("MIN")) {
            return Integer.MIN_VALUE;
        }
        return text.equals("MAX") ? Integer.MAX_VALUE : Integer.parseInt(text);
    }
}
