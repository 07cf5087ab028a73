/** Promises 40 to 44: grounds, reasons, panels and papers withdrawn. */
public final class UndoingTest {
    private static final Class<?> INDEX = IndexOutOfBoundsException.class;
    private static final Class<?> ARGUMENT = IllegalArgumentException.class;
    private static final Class<?> UNSUPPORTED = UnsupportedOperationException.class;
    private static final Class<?> NO_SUCH = java.util.NoSuchElementException.class;
    private static final Check CHECK = new Check("UndoingTest");

    private UndoingTest() {
    }

    public static void main(String[] args) {
        ground();
        reason();
        panel();
        panelRefuses();
        papers();
        CHECK.end();
    }

    private static void ground() {
        Vivahouse x = Houses.awarded();
        CHECK.refuses("no such candidate", INDEX, x, () -> x.ground(1, 'x'));
        CHECK.refuses("no such kind", ARGUMENT, x, () -> x.ground(0, 'x'));
        x.pass(60);
        for (int i = 1; i <= 5; i++) {
            CHECK.same("one more", x.ground(0, i % 2 == 0 ? 'q' : 'z'), i);
        }
        CHECK.refuses("a sixth one", UNSUPPORTED, x, () -> x.ground(0, 'q'));
        CHECK.refuses("a sixth one of no kind", ARGUMENT, x, () -> x.ground(0, 'p'));
        Vivahouse open = Houses.after('p', 'p');
        CHECK.refuses("no award yet", UNSUPPORTED, open, () -> open.ground(0, 'q'));
        CHECK.refuses("no award yet, no kind", ARGUMENT, open, () -> open.ground(0, '-'));
        Vivahouse over = Houses.over();
        CHECK.refuses("over without one", UNSUPPORTED, over, () -> over.ground(0, 'q'));
    }

    private static void reason() {
        Vivahouse x = Houses.awarded();
        CHECK.refuses("no such candidate", INDEX, x, () -> x.reason(1, 0));
        CHECK.refuses("no ground", NO_SUCH, x, () -> x.reason(0, 0));
        x.ground(0, 'q');
        x.ground(0, 'q');
        x.ground(0, 'z');
        CHECK.same("the last one", x.reason(0, 0), 'z');
        CHECK.same("its cause", x.reason(0, 1), 'q');
        CHECK.same("the cause of that", x.reason(0, 2), 'q');
        CHECK.refuses("no more", NO_SUCH, x, () -> x.reason(0, 3));
        CHECK.refuses("depth -1", NO_SUCH, x, () -> x.reason(0, -1));
        CHECK.refuses("the least depth", NO_SUCH, x, () -> x.reason(0, Integer.MIN_VALUE));
        CHECK.refuses("the greatest depth", NO_SUCH, x, () -> x.reason(0, Integer.MAX_VALUE));
        x.ground(0, 'q');
        x.ground(0, 'z');
        CHECK.same("of five the last one", x.reason(0, 0), 'z');
        CHECK.same("of five the first one", x.reason(0, 4), 'q');
    }

    private static void panel() {
        Vivahouse x = Houses.awarded();
        x.publish(0);
        x.publish(0);
        x.ground(0, 'q');
        x.ground(0, 'z');
        CHECK.same("one vote", x.panel(0, 2, 3, 5, 1), false);
        CHECK.same("the outcome stays", x.outcome(0), 'p');
        CHECK.refuses("the grounds are gone", NO_SUCH, x, () -> x.reason(0, 0));
        CHECK.refuses("no panel without them", UNSUPPORTED, x, () -> x.panel(0, 2, 3, 5, 3));
        CHECK.same("a new one", x.ground(0, 'q'), 1);
        CHECK.same("is the only one", x.reason(0, 0), 'q');
        CHECK.same("no votes", x.panel(0, 2, 3, 5, 0), false);
        x.ground(0, 'z');
        x.pass(60);
        CHECK.same("two votes", x.panel(0, 7, 6, 5, 2), true);
        CHECK.same("the outcome", x.outcome(0), 'x');
        CHECK.same("the state", x.state(0), 'o');
        CHECK.same("the grounds stay", x.reason(0, 0), 'z');
        CHECK.same("the papers", x.papers(0), 0);
        CHECK.same("are withdrawn", x.withdrawn(), 2);
        CHECK.refuses("no more grounds", UNSUPPORTED, x, () -> x.ground(0, 'q'));
        CHECK.same("a panel once more", x.panel(0, 7, 6, 5, 2), true);
        CHECK.same("withdraws nothing more", x.withdrawn(), 2);
        Vivahouse three = Houses.awarded();
        three.ground(0, 'q');
        CHECK.same("three votes", three.panel(0, 2, 5, 6, 3), true);
        CHECK.same("soundness", three.isSound(), true);
    }

    private static void panelRefuses() {
        Vivahouse x = Houses.awarded();
        CHECK.refuses("no ground", UNSUPPORTED, x, () -> x.panel(0, 2, 3, 5, 2));
        x.ground(0, 'q');
        CHECK.refuses("no such candidate", INDEX, x, () -> x.panel(1, 2, 3, 5, 4));
        CHECK.refuses("no such one", INDEX, x, () -> x.panel(0, 8, 3, 5, 2));
        CHECK.refuses("no such two", INDEX, x, () -> x.panel(0, 2, -1, 5, 2));
        CHECK.refuses("no such three", INDEX, x, () -> x.panel(0, 2, 3, 8, 4));
        CHECK.refuses("votes -1", ARGUMENT, x, () -> x.panel(0, 2, 3, 5, -1));
        CHECK.refuses("votes 4", ARGUMENT, x, () -> x.panel(0, 2, 2, 5, 4));
        CHECK.refuses("one is two", UNSUPPORTED, x, () -> x.panel(0, 2, 2, 5, 2));
        CHECK.refuses("one is three", UNSUPPORTED, x, () -> x.panel(0, 2, 3, 2, 2));
        CHECK.refuses("two is three", UNSUPPORTED, x, () -> x.panel(0, 2, 5, 5, 2));
        CHECK.refuses("one was an examiner", UNSUPPORTED, x, () -> x.panel(0, 1, 2, 3, 2));
        CHECK.refuses("two was one", UNSUPPORTED, x, () -> x.panel(0, 2, 4, 3, 2));
        CHECK.refuses("three was one", UNSUPPORTED, x, () -> x.panel(0, 2, 3, 1, 2));
        CHECK.refuses("one is barred", UNSUPPORTED, x, () -> x.panel(0, 0, 2, 3, 2));
        x.kin(0, 7);
        CHECK.refuses("two is barred", UNSUPPORTED, x, () -> x.panel(0, 2, 7, 3, 2));
        x.tie(6, 0, 'k');
        CHECK.refuses("three is barred", UNSUPPORTED, x, () -> x.panel(0, 2, 3, 6, 2));
        CHECK.refuses("votes come ahead of that", ARGUMENT, x, () -> x.panel(0, 2, 3, 6, 9));
        Vivahouse second = Houses.after('r', 'r');
        second.deposit(0, 0);
        second.examiners(0, 2, 5);
        second.viva(0, 'p', 'i');
        second.sign(0, 2);
        second.award(0);
        second.ground(0, 'q');
        CHECK.refuses("an examiner of the last viva", UNSUPPORTED, second, () -> second.panel(0, 1, 4, 5, 2));
        CHECK.same("examiners of the one before", second.panel(0, 1, 4, 6, 2), true);
        Vivahouse adjudged = Houses.after('p', 'f');
        adjudged.adjudicate(0, 6, 'p');
        adjudged.award(0);
        adjudged.ground(0, 'q');
        CHECK.same("who adjudicated is no examiner", adjudged.panel(0, 6, 5, 7, 2), true);
    }

    private static void papers() {
        Vivahouse x = Houses.awarded();
        x.candidate('f', false);
        x.publish(1);
        x.publish(0);
        x.publish(0);
        x.publish(0);
        CHECK.refuses("no such candidate", INDEX, x, () -> x.papers(2));
        CHECK.same("papers", x.papers(0), 3);
        CHECK.same("none withdrawn", x.withdrawn(), 0);
        x.ground(0, 'q');
        x.panel(0, 2, 3, 5, 3);
        CHECK.same("withdrawn", x.withdrawn(), 3);
        CHECK.same("of this one", x.papers(0), 0);
        CHECK.same("not of the other one", x.papers(1), 1);
        x.supervise(1, 0, true);
        x.upgrade(1, 1, true, 2, true);
        x.pass(6);
        x.deposit(1, 0);
        x.examiners(1, 1, 4);
        x.viva(1, 'p', 'p');
        x.award(1);
        x.ground(1, 'z');
        x.panel(1, 2, 3, 5, 2);
        CHECK.same("of both", x.withdrawn(), 4);
    }
}
