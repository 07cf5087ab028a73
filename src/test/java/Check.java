/** Counts what is not as due; each test ends with {@link #end}. */
final class Check {
    /** A call whose answer, or whose exception, is looked at. */
    interface Call {
        Object answer();
    }

    private final String test;
    private int looks = 0;
    private int wrong = 0;

    Check(String test) {
        this.test = test;
    }

    void same(String what, Object got, Object want) {
        looks++;
        if (!want.equals(got)) {
            wrong++;
            System.out.println(test + ": " + what + " answered " + got + ", due is " + want);
        }
    }

    /** The call throws exactly this exception, by a throw of the program's own, and changes nothing. */
    void refuses(String what, Class<?> kind, Vivahouse house, Call call) {
        String before = Inside.of(house);
        same(what, outcomeOf(call), "throws." + kind.getSimpleName());
        same(what + " changes nothing", Inside.of(house), before);
    }

    /** The answer as a text, or the exception behind "throws."; one that the machine threw is told apart. */
    static String outcomeOf(Call call) {
        try {
            return String.valueOf(call.answer());
        } catch (RuntimeException e) {
            boolean isOwn = e.getStackTrace().length > 0
                    && e.getStackTrace()[0].getClassName().startsWith("Vivahouse")
                    && e.getMessage() == null;
            return (isOwn ? "throws." : "machine throws ") + e.getClass().getSimpleName();
        }
    }

    void end() {
        System.out.println(test + ": " + (looks - wrong) + " of " + looks + " are as due");
        if (wrong != 0 || looks == 0) {
            System.exit(1);
        }
    }
}
