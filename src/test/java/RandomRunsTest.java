import java.lang.reflect.InvocationTargetException;
import java.lang.reflect.Method;
import java.util.ArrayList;
import java.util.List;
import java.util.Map;
import java.util.TreeMap;

/**
 * Long runs of calls, the same ones each time. Each call answers or throws exactly what the document lists, a call that
 * throws changes nothing (a second house that never gets it answers all else alike), and the house stays sound.
 */
public final class RandomRunsTest {
    private static final int RUNS = 400;
    /** The last one of the 512 calls of an object asks whether it is sound. */
    private static final int CALLS = 511;
    private static final Check CHECK = new Check("RandomRunsTest");

    /** A kind of argument for each parameter: c candidate, m member, g grant, r regulation, b boolean, others below. */
    private static final String[][] CALLS_WITH_KINDS = {
        {"regulation", "LMURRYb"}, {"member", "hl"}, {"tie", "mmt"}, {"kin", "cm"}, {"candidate", "ob"},
        {"mode", "co"}, {"pause", "cp"}, {"resume", "c"}, {"move", "cr"}, {"extend", "cx"}, {"pass", "n"},
        {"month", ""}, {"clock", "c"}, {"limit", "c"}, {"reaches", "c"}, {"state", "c"}, {"outcome", "c"},
        {"supervise", "CHb"}, {"release", "CH"}, {"supervisor", "ci"}, {"load", "m"}, {"grant", "caxf"}, {"left", "g"},
        {"money", "c"}, {"gap", "c"}, {"ethics", "c"}, {"upgrade", "cmBmB"}, {"publish", "c"}, {"deposit", "ck"},
        {"clear", "cm"}, {"barred", "cm"}, {"examiners", "cmm"}, {"viva", "cvv"}, {"adjudicate", "cmv"}, {"due", "c"},
        {"sign", "cm"}, {"award", "c"}, {"appeal", "cb"}, {"ground", "cd"}, {"reason", "ci"}, {"panel", "cmmmw"},
        {"papers", "c"}, {"withdrawn", ""}, {"checksum", ""}, {"awardShare", "ff"}, {"meanClock", ""}, {"isSound", ""},
    };

    /**
     * Narrower arguments in the order of a candidature, so that the runs come far: C the candidate whose turn it is,
     * H a member of this house, O one of others, E one of those last told as examiners, e a month or two.
     */
    private static final String[][] CALLS_THAT_LEAD_ON = {
        {"resume", "C"}, {"ethics", "C"}, {"upgrade", "CHBHB"}, {"upgrade", "CHBHB"}, {"pass", "e"},
        {"deposit", "Ck"}, {"clear", "CO"}, {"examiners", "CHO"}, {"examiners", "CHO"}, {"viva", "CVV"},
        {"adjudicate", "COV"}, {"adjudicate", "COV"}, {"due", "C"}, {"sign", "CE"}, {"sign", "CE"}, {"due", "C"},
        {"sign", "CE"}, {"publish", "C"}, {"award", "C"}, {"meanClock", ""}, {"appeal", "Cb"}, {"ground", "Cd"},
        {"ground", "Cd"}, {"reason", "Ci"}, {"panel", "CHOOw"},
    };

    private static final String[] LONG_PASS = {"pass", "N"};
    private static long seed;
    private static int step;
    private static final int[] EXAMINERS = new int[2];

    private RandomRunsTest() {
    }

    public static void main(String[] args) throws IllegalAccessException {
        Map<String, Method> face = new TreeMap<>();
        for (Method m : Vivahouse.class.getMethods()) {
            if (m.getDeclaringClass() == Vivahouse.class) {
                face.put(m.getName(), m);
            }
        }
        TreeMap<String, Integer> seen = new TreeMap<>();
        for (int run = 0; run < RUNS; run++) {
            seed = 1000003L * (run + 1);
            step = 0;
            run(run, face, seen);
        }
        everyAnswerWasSeen(face, seen);
        CHECK.end();
    }

    private static void run(int run, Map<String, Method> face, Map<String, Integer> seen)
            throws IllegalAccessException {
        Vivahouse house = new Vivahouse();
        String[] favourite = run % 40 == 0 ? LONG_PASS : CALLS_WITH_KINDS[run % CALLS_WITH_KINDS.length];
        List<Method> methods = new ArrayList<>();
        List<Object[]> arguments = new ArrayList<>();
        List<String> answers = new ArrayList<>();
        for (int i = 0; i < CALLS; i++) {
            String[] call = i < 24 ? callAtFirst(i) : nextCall(favourite);
            Method method = face.get(call[0]);
            Object[] values = i < 24 && below(4) > 0 ? valuesAtFirst(i) : values(call[1]);
            String answer = answerOf(house, method, values);
            seen.merge(call[0] + (answer.startsWith("throws.") ? " " + answer : " answers"), 1, Integer::sum);
            if (!answer.startsWith("throws.")) {
                methods.add(method);
                arguments.add(values);
                answers.add(answer);
            } else if (!isListed(method, answer)) {
                CHECK.same("run " + run + " call " + i + ": " + call[0], answer, "an answer or a listed exception");
            }
        }
        CHECK.same("run " + run + " is sound", house.isSound(), true);
        Vivahouse twin = new Vivahouse();
        List<String> again = new ArrayList<>();
        for (int i = 0; i < methods.size(); i++) {
            again.add(answerOf(twin, methods.get(i), arguments.get(i)));
        }
        CHECK.same("run " + run + " without the calls that throw", again, answers);
        CHECK.same("run " + run + " is alike inside then", Inside.of(twin), Inside.of(house));
    }

    /** Each run has a call that it likes best, so that the most of everything is reached in some run. */
    private static String[] nextCall(String[] favourite) {
        int choice = below(12);
        if (choice == 0) {
            return favourite;
        }
        if (choice < 4) {
            return CALLS_WITH_KINDS[below(CALLS_WITH_KINDS.length)];
        }
        step++;
        return CALLS_THAT_LEAD_ON[step % CALLS_THAT_LEAD_ON.length];
    }

    private static String[] callAtFirst(int i) {
        String name = i < 2 ? "regulation" : i < 12 ? "member" : i < 17 ? "candidate" : i < 22 ? "supervise" : "pass";
        for (String[] call : CALLS_WITH_KINDS) {
            if (call[0].equals(name)) {
                return call;
            }
        }
        return CALLS_WITH_KINDS[0];
    }

    private static Object[] valuesAtFirst(int i) {
        if (i < 2) {
            return new Object[] {
                6, 80 + below(41), 30 + below(31), 1 + below(9), 1 + below(9), below(5), below(2) == 0,
            };
        }
        if (i < 12) {
            return new Object[] {i < 7 ? 0 : i - 6, 400};
        }
        if (i < 17) {
            return new Object[] {below(3) == 0 ? 'h' : 'f', below(3) == 0};
        }
        return i < 22 ? new Object[] {i - 17, below(3), true} : new Object[] {1 + below(6)};
    }

    /** The exception behind "throws." is one of its own, thrown by a throw of the program's, and listed. */
    private static boolean isListed(Method method, String answer) {
        for (Class<?> listed : method.getExceptionTypes()) {
            if (answer.equals("throws." + listed.getSimpleName())) {
                return true;
            }
        }
        return false;
    }

    private static String answerOf(Vivahouse house, Method method, Object[] values) throws IllegalAccessException {
        try {
            return String.valueOf(method.invoke(house, values));
        } catch (InvocationTargetException e) {
            Throwable thrown = e.getCause();
            boolean isOwn = thrown.getMessage() == null && thrown.getStackTrace().length > 0
                    && thrown.getStackTrace()[0].getClassName().startsWith("Vivahouse");
            return "throws." + (isOwn ? "" : "machine.") + thrown.getClass().getSimpleName();
        }
    }

    /** Every method answered, and threw each exception that the document lists for it. */
    private static void everyAnswerWasSeen(Map<String, Method> face, Map<String, Integer> seen) {
        for (Method m : face.values()) {
            CHECK.same(m.getName() + " answered", seen.containsKey(m.getName() + " answers"), true);
            for (Class<?> listed : m.getExceptionTypes()) {
                String what = m.getName() + " throws." + listed.getSimpleName();
                CHECK.same(what, seen.containsKey(what), true);
            }
        }
    }

    private static Object[] values(String kinds) {
        Object[] values = new Object[kinds.length()];
        for (int i = 0; i < values.length; i++) {
            values[i] = value(kinds.charAt(i));
        }
        return values;
    }

    private static Object value(char kind) {
        switch (kind) {
            case 'b': return below(2) == 0;
            case 'B': return below(5) > 0;
            case 'o': return letter("fhfhfhfhfhx");
            case 'p': return letter("slwslwslwx");
            case 't': return letter("pmkpmkpmkx");
            case 'v': return letter("pijrmfiiippjjrrx");
            case 'V': return letter("pijrmfppiijj");
            case 'd': return letter("qzqzqzx");
            default: return number(kind);
        }
    }

    private static int number(char kind) {
        if (below(60) == 0) {
            return below(2) == 0 ? Integer.MIN_VALUE : Integer.MAX_VALUE;
        }
        switch (kind) {
            case 'c': return below(15) == 0 ? below(16) - 2 : below(6);
            case 'm': return below(20) == 0 ? below(20) - 2 : below(10);
            case 'C': return step / CALLS_THAT_LEAD_ON.length % 5;
            case 'H': EXAMINERS[0] = below(5); return EXAMINERS[0];
            case 'O': EXAMINERS[1] = 5 + below(5); return EXAMINERS[1];
            case 'E': return EXAMINERS[below(2)];
            case 'N': return 30 + below(31);
            case 'e': return 1 + below(2);
            case 'g': return below(23) - 1;
            case 'r': return below(7) - 1;
            case 'L': return 5 + below(10);
            case 'M': return 10 + below(115);
            case 'U': return below(62);
            case 'R': return below(26);
            case 'Y': return below(13) - 1;
            case 'h': return below(8) - 1;
            case 'l': return below(404) - 2;
            case 'x': return below(14);
            case 'n': return below(10) == 0 ? below(64) : below(4);
            case 'i': return below(5) - 1;
            case 'a': return below(10020) - 9;
            case 'f': return below(20) == 0 ? below(620) - 10 : below(60);
            case 'k': return below(10) == 0 ? below(104) - 2 : below(50);
            default: return below(6) - 1;
        }
    }

    private static char letter(String letters) {
        return letters.charAt(below(letters.length()));
    }

    private static int below(int bound) {
        seed = seed * 6364136223846793005L + 1442695040888963407L;
        return (int) ((seed >>> 33) % bound);
    }
}
