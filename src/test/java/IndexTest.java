import java.util.ArrayList;
import java.util.List;

/** Each number of a candidate, a member, a regulation and a grant: of none, of one and of the most that there are. */
public final class IndexTest {
    private static final Check CHECK = new Check("IndexTest");

    /** The letters c, m, r and g stand for numbers of a candidate, a member, a regulation and a grant. */
    private static final String[] CALLS = {
        "tie(m, m, 'p')", "kin(c, m)", "mode(c, 'f')", "pause(c, 's')", "resume(c)", "move(c, r)", "extend(c, 1)",
        "clock(c)", "limit(c)", "reaches(c)", "state(c)", "outcome(c)", "supervise(c, m, true)",
        "supervise(c, m, false)", "release(c, m)", "supervisor(c, 0)", "load(m)", "grant(c, 1, 1, 0)", "left(g)",
        "money(c)", "gap(c)", "ethics(c)", "upgrade(c, m, true, m, true)", "upgrade(c, m, false, m, false)",
        "publish(c)", "deposit(c, 0)", "clear(c, m)", "barred(c, m)", "examiners(c, m, m)", "viva(c, 'p', 'p')",
        "adjudicate(c, m, 'p')", "due(c)", "sign(c, m)", "award(c)", "appeal(c, true)", "appeal(c, false)",
        "ground(c, 'q')", "reason(c, 0)", "panel(c, m, m, m, 2)", "papers(c)",
    };

    /** What is wrong besides: the exception for the number is documented first, so it comes first. */
    private static final String[] CALLS_WRONG_BESIDES = {
        "tie(m, m, '!')", "mode(c, '!')", "pause(c, '!')", "extend(c, 0)", "supervisor(c, -1)", "grant(c, 0, 0, -1)",
        "deposit(c, -1)", "viva(c, '!', '!')", "adjudicate(c, m, '!')", "ground(c, '!')", "reason(c, -1)",
        "panel(c, m, m, m, 4)",
    };

    private IndexTest() {
    }

    public static void main(String[] args) {
        emptyHouse();
        for (String stage : new String[] {"empty", "entered", "over", "examined", "awarded", "full"}) {
            for (String call : CALLS) {
                everyNumberOf(call, stage, true);
            }
            for (String call : CALLS_WRONG_BESIDES) {
                everyNumberOf(call, stage, false);
            }
        }
        fullHouse();
        CHECK.end();
    }

    private static Vivahouse house(String stage) {
        switch (stage) {
            case "empty": return new Vivahouse();
            case "entered": return Houses.entered();
            case "over": return Houses.over();
            case "examined": return Houses.examined();
            case "awarded": return Houses.awarded();
            default: return full();
        }
    }

    private static int countOf(char kind, String stage) {
        if (stage.equals("empty")) {
            return 0;
        }
        boolean isFull = stage.equals("full");
        switch (kind) {
            case 'c': return isFull ? 12 : 1;
            case 'm': return isFull ? 16 : 8;
            case 'r': return isFull ? 5 : 1;
            default: return isFull ? 20 : 0;
        }
    }

    private static void everyNumberOf(String call, String stage, boolean isElseRight) {
        for (int at = 1; at < call.length(); at++) {
            if (isNumber(call, at)) {
                int count = countOf(call.charAt(at), stage);
                refuseNumbers(call, at, stage, count);
                if (isElseRight && count > 0) {
                    takeNumber(call, at, stage, 0);
                    takeNumber(call, at, stage, count - 1);
                }
            }
        }
    }

    /** Whether one of the four letters stands alone there. */
    private static boolean isNumber(String call, int at) {
        return "cmrg".indexOf(call.charAt(at)) >= 0 && "( ".indexOf(call.charAt(at - 1)) >= 0
                && ",)".indexOf(call.charAt(at + 1)) >= 0;
    }

    private static void refuseNumbers(String call, int at, String stage, int count) {
        int[] refused = {
            Integer.MIN_VALUE, -65536, -32, -16, -1, count, count + 1, 32, 33, 64, 256, 65536, Integer.MAX_VALUE - 1,
            Integer.MAX_VALUE,
        };
        Vivahouse x = house(stage);
        for (int number : refused) {
            Script.run(CHECK, stage, x, with(call, at, number) + " throws IndexOutOfBounds");
        }
    }

    private static void takeNumber(String call, int at, String stage, int number) {
        String taken = with(call, at, number);
        String got = Script.outcomeOf(house(stage), taken);
        CHECK.same(stage + ": " + taken + " is of somebody", got.contains("IndexOutOfBounds"), false);
    }

    /** The number at one place, and at the others unlike ones of those that there are. */
    private static String with(String call, int place, int number) {
        StringBuilder text = new StringBuilder(call.substring(0, 1));
        int others = number == 0 ? 1 : 0;
        for (int i = 1; i < call.length(); i++) {
            char c = call.charAt(i);
            if (!isNumber(call, i)) {
                text.append(c);
            } else if (i == place) {
                text.append(number);
            } else {
                text.append(c == 'm' ? others++ : 0);
            }
        }
        return text.toString();
    }

    private static void emptyHouse() {
        Vivahouse x = new Vivahouse();
        Script.run(CHECK, "a house without anything", x, """
                month() = 0; withdrawn() = 0; checksum() = 7; isSound() = true; awardShare(0, 600) throws Arithmetic;
                awardShare(0, 0) throws Arithmetic; meanClock() throws Arithmetic;
                candidate('f', false) throws Unsupported; candidate('h', true) throws Unsupported; pass(60) = 60;
                month() = 60; checksum() = 7; isSound() = true; awardShare(0, 600) throws Arithmetic
                """);
        Script.run(CHECK, "with members alone", new Vivahouse(), """
                member(0, 400) = 0; load(0) = 0; candidate('f', false) throws Unsupported; kin(0, 0) throws Index;
                barred(0, 0) throws Index
                """);
        Script.run(CHECK, "with a regulation alone", new Vivahouse(), """
                regulation(6, 12, 6, 2, 3, 3, true) = 0; candidate('f', false) = 0;
                supervise(0, 0, true) throws Index; load(0) throws Index
                """);
    }

    /** The most of everything at once: 5 regulations, 16 members, 30 ties, 12 candidates and 20 grants. */
    private static Vivahouse full() {
        Vivahouse x = new Vivahouse();
        for (int i = 0; i < 5; i++) {
            x.regulation(6, 120, 60, 24, 24, 10, true);
        }
        for (int i = 0; i < 16; i++) {
            x.member(i < 10 ? 0 : i - 10, 400);
        }
        for (int i = 0; i < 30; i++) {
            x.tie(i % 15, 15, 'k');
        }
        for (int i = 0; i < 12; i++) {
            x.candidate('f', true);
        }
        for (int i = 0; i < 20; i++) {
            x.grant(i % 12, 9999, 60, 0);
        }
        return x;
    }

    private static void fullHouse() {
        Vivahouse x = full();
        Script.run(CHECK, "one more of each", x, """
                regulation(6, 12, 6, 2, 3, 3, true) throws IllegalState; member(0, 0) throws IllegalState;
                tie(0, 1, 'p') throws IllegalState; candidate('f', false) throws IllegalState;
                grant(0, 1, 1, 0) throws IllegalState; isSound() = true
                """);
        for (int i = 0; i < 12; i++) {
            begin(x, i);
        }
        Script.run(CHECK, "twelve at once", x,
                "pass(60) = 60; money(0) = 1199880; money(11) = 599940; isSound() = true");
        for (int i = 0; i < 12; i++) {
            end(x, i);
        }
        Script.run(CHECK, "twelve degrees undone", x, """
                withdrawn() = 108; awardShare(0, 600) = 0.0; meanClock() throws Arithmetic; isSound() = true
                """);
    }

    /** Candidates of the first supervisors 0 to 3, three each, and the further ones 4 to 6, four each. */
    private static void begin(Vivahouse x, int i) {
        List<String> calls = new ArrayList<>();
        calls.add("ethics(" + i + ") = " + (i + 1));
        calls.add("supervise(" + i + ", " + i % 4 + ", true) = " + 60 * (i / 4 + 1));
        calls.add("supervise(" + i + ", " + (4 + i % 3) + ", false) = " + 20 * (i / 3 + 1));
        calls.add("upgrade(" + i + ", 8, true, 9, true) = 'p'");
        calls.add("3 extend(" + i + ", 12)");
        calls.add("extend(" + i + ", 1) throws Unsupported");
        calls.add("limit(" + i + ") = 312");
        Script.run(CHECK, "one of twelve", x, String.join("; ", calls));
    }

    /** Each four of them have the same examiners, so nobody is barred by use. */
    private static void end(Vivahouse x, int i) {
        int round = i / 4;
        List<String> calls = new ArrayList<>();
        calls.add("deposit(" + i + ", 0) = 1");
        calls.add("examiners(" + i + ", " + (7 + round) + ", " + (11 + round) + ") = " + i % 4);
        calls.add("viva(" + i + ", 'p', 'p') = 'p'");
        calls.add("award(" + i + ") = " + (i + 1));
        calls.add("9 publish(" + i + ")");
        calls.add("publish(" + i + ") throws Unsupported");
        calls.add("5 ground(" + i + ", 'z')");
        calls.add("ground(" + i + ", 'q') throws Unsupported");
        calls.add("panel(" + i + ", 10, 14, " + (7 + (round + 1) % 3) + ", 3) = true");
        Script.run(CHECK, "one of twelve", x, String.join("; ", calls));
    }
}
