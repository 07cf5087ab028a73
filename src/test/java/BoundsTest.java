import java.util.function.Supplier;

/** Each number and each letter that is told: the last one that is in range and the first one that is not, both ways. */
public final class BoundsTest {
    private static final Check CHECK = new Check("BoundsTest");

    private BoundsTest() {
    }

    public static void main(String[] args) {
        numbersOfRegulations();
        numbersOfAllElse();
        letters();
        numbersWithoutBounds();
        CHECK.end();
    }

    /** The call, with a number in place of the question mark, is taken from least to most, and refused otherwise. */
    private static void range(Supplier<Vivahouse> houses, String call, int least, int most) {
        for (int taken : new int[] {least, (least + most) / 2, most}) {
            Script.run(CHECK, call + " takes", houses.get(), call.replace("?", "" + taken) + "; isSound() = true");
        }
        int[] tried = {
            Integer.MIN_VALUE, Integer.MIN_VALUE + least, -65536 + least, -least - 1, -1, 0, least - 1, most + 1,
            2 * most + 1, least + 256, most + 256, least + 65536, Integer.MAX_VALUE,
        };
        Vivahouse house = houses.get();
        for (int refused : tried) {
            if (refused < least || refused > most) {
                Script.run(CHECK, call, house, call.replace("?", "" + refused) + " throws IllegalArgument");
            }
        }
    }

    private static void numbersOfRegulations() {
        range(Vivahouse::new, "regulation(?, 120, 6, 2, 3, 3, true)", 6, 120);
        range(Vivahouse::new, "regulation(?, 20, 6, 2, 3, 3, true)", 6, 20);
        range(Vivahouse::new, "regulation(6, ?, 6, 2, 3, 3, true)", 6, 120);
        range(Vivahouse::new, "regulation(20, ?, 6, 2, 3, 3, true)", 20, 120);
        range(Vivahouse::new, "regulation(120, ?, 6, 2, 3, 3, true)", 120, 120);
        range(Vivahouse::new, "regulation(6, ?, 60, 2, 3, 3, true)", 6, 120);
        range(Vivahouse::new, "regulation(6, 12, ?, 2, 3, 3, true)", 1, 60);
        range(Vivahouse::new, "regulation(6, 12, 6, ?, 3, 3, true)", 1, 24);
        range(Vivahouse::new, "regulation(6, 12, 6, 2, ?, 3, true)", 1, 24);
        range(Vivahouse::new, "regulation(6, 12, 6, 2, 3, ?, true)", 0, 10);
        range(Vivahouse::new, "regulation(6, 12, 6, 2, 3, ?, false)", 0, 10);
    }

    private static void numbersOfAllElse() {
        range(Vivahouse::new, "member(?, 100)", 0, 5);
        range(Vivahouse::new, "member(0, ?)", 0, 400);
        range(Vivahouse::new, "member(5, ?)", 0, 400);
        range(Houses::entered, "extend(0, ?)", 1, 12);
        range(Vivahouse::new, "pass(?)", 1, 60);
        range(Houses::examined, "pass(?)", 1, 60);
        range(Houses::entered, "grant(0, ?, 1, 0)", 1, 9999);
        range(Houses::entered, "grant(0, 1, ?, 0)", 1, 60);
        range(Houses::entered, "grant(0, 1, 1, ?)", 0, 600);
        range(BoundsTest::readyToDeposit, "deposit(0, ?)", 0, 100);
        range(BoundsTest::withAGround, "panel(0, 2, 3, 5, ?)", 0, 3);
    }

    private static Vivahouse readyToDeposit() {
        Vivahouse x = Houses.upgraded();
        x.pass(6);
        return x;
    }

    private static Vivahouse withAGround() {
        Vivahouse x = Houses.awarded();
        x.ground(0, 'q');
        return x;
    }

    /** Tells a letter to a house. */
    private interface Telling {
        Object tell(Vivahouse house, char letter);
    }

    private static void letters() {
        letter("tie", "pmk", Houses::plain, (x, c) -> x.tie(0, 1, c));
        letter("candidate", "fh", Houses::plain, (x, c) -> x.candidate(c, false));
        letter("mode", "fh", Houses::entered, (x, c) -> x.mode(0, c));
        letter("pause", "slw", Houses::entered, (x, c) -> x.pause(0, c));
        letter("viva, one", "pijrmf", Houses::examined, (x, c) -> x.viva(0, c, 'p'));
        letter("viva, other", "pijrmf", Houses::examined, (x, c) -> x.viva(0, 'f', c));
        letter("adjudicate", "pijrmf", () -> Houses.after('p', 'f'), (x, c) -> x.adjudicate(0, 5, c));
        letter("ground", "qz", Houses::awarded, (x, c) -> x.ground(0, c));
    }

    /** All letters up to 255, and those beyond whose lower eight bits are a letter that is taken. */
    private static void letter(String what, String taken, Supplier<Vivahouse> houses, Telling telling) {
        Vivahouse house = houses.get();
        for (char c = 0; c < 256; c++) {
            if (taken.indexOf(c) < 0) {
                refusesLetter(what, house, telling, c);
            } else {
                takesLetter(what, houses.get(), telling, c);
                refusesLetter(what, house, telling, (char) (c + 256));
                refusesLetter(what, house, telling, (char) (c + 65280));
            }
        }
    }

    private static void refusesLetter(String what, Vivahouse house, Telling telling, char c) {
        CHECK.refuses(what + " " + (int) c, IllegalArgumentException.class, house, () -> telling.tell(house, c));
    }

    private static void takesLetter(String what, Vivahouse house, Telling telling, char c) {
        String outcome = Check.outcomeOf(() -> telling.tell(house, c));
        CHECK.same(what + " " + (int) c + " is taken", outcome.contains("throws"), false);
    }

    /** Depths, indexes and months of a share have no bounds of their own: what is not there is not there. */
    private static void numbersWithoutBounds() {
        Vivahouse x = Houses.awarded();
        x.ground(0, 'q');
        for (String n : new String[] {"MIN", "-65536", "-1", "1", "2", "5", "255", "65536", "MAX"}) {
            Script.run(CHECK, "depth", x, "reason(0, " + n + ") throws NoSuch");
            Script.run(CHECK, "index", x, "supervisor(0, " + n + ") throws NoSuch");
        }
        Script.run(CHECK, "the one that is there", x, "reason(0, 0) = 'q'; supervisor(0, 0) = 0");
        Script.run(CHECK, "months of a share", x, """
                awardShare(MIN, MAX) = 1.0; awardShare(0, MAX) = 1.0; awardShare(MIN, 0) = 1.0;
                awardShare(MAX, MIN) throws Arithmetic; awardShare(1, MAX) throws Arithmetic;
                awardShare(MIN, -1) throws Arithmetic; awardShare(MAX, MAX) throws Arithmetic;
                awardShare(MIN, MIN) throws Arithmetic; awardShare(600, 0) throws Arithmetic;
                awardShare(601, 700) throws Arithmetic
                """);
    }
}
