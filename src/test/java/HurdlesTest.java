/** Promises 27 to 31: ethics, the upgrade, papers, deposits and their clearing. */
public final class HurdlesTest {
    private static final Class<?> INDEX = IndexOutOfBoundsException.class;
    private static final Class<?> ARGUMENT = IllegalArgumentException.class;
    private static final Class<?> UNSUPPORTED = UnsupportedOperationException.class;
    private static final Check CHECK = new Check("HurdlesTest");

    private HurdlesTest() {
    }

    public static void main(String[] args) {
        ethics();
        upgrade();
        upgradeRefuses();
        publish();
        deposit();
        depositRefuses();
        clear();
        CHECK.end();
    }

    private static void ethics() {
        Vivahouse x = Houses.plain();
        x.candidate('f', true);
        x.candidate('f', false);
        x.candidate('f', true);
        CHECK.refuses("no such candidate", INDEX, x, () -> x.ethics(3));
        CHECK.refuses("needs none", UNSUPPORTED, x, () -> x.ethics(1));
        CHECK.same("a first one", x.ethics(2), 1);
        CHECK.refuses("has them", UNSUPPORTED, x, () -> x.ethics(2));
        x.pause(0, 's');
        CHECK.same("a second one", x.ethics(0), 2);
        Vivahouse over = Houses.plain();
        over.candidate('f', true);
        over.pass(6);
        CHECK.refuses("one who is over", UNSUPPORTED, over, () -> over.ethics(0));
        over.candidate('f', true);
        CHECK.same("of all candidates", over.ethics(1), 1);
    }

    private static void upgrade() {
        Vivahouse passed = Houses.supervised();
        CHECK.same("two yes", passed.upgrade(0, 1, true, 2, true), 'p');
        CHECK.refuses("is passed", UNSUPPORTED, passed, () -> passed.upgrade(0, 1, true, 2, true));
        passed.pass(6);
        CHECK.same("goes on", passed.state(0), 'a');
        Vivahouse second = Houses.supervised();
        CHECK.same("yes and no", second.upgrade(0, 1, true, 2, false), 'r');
        CHECK.same("the second one", second.upgrade(0, 2, true, 3, true), 'p');
        Vivahouse first = Houses.supervised();
        CHECK.same("no and yes", first.upgrade(0, 1, false, 2, true), 'r');
        CHECK.same("is to be tried again", first.state(0), 'a');
        CHECK.same("no and no", first.upgrade(0, 1, false, 2, false), 'm');
        CHECK.same("state", first.state(0), 'o');
        CHECK.same("outcome", first.outcome(0), 'm');
        CHECK.refuses("no appeal against it", UNSUPPORTED, first, () -> first.appeal(0, true));
        CHECK.same("soundness", first.isSound(), true);
        Vivahouse once = Houses.supervised();
        once.upgrade(0, 1, true, 2, false);
        once.pass(6);
        CHECK.same("tried, but not passed", once.outcome(0), 'n');
    }

    private static void upgradeRefuses() {
        Vivahouse x = Houses.plain();
        x.candidate('f', true);
        x.supervise(0, 0, true);
        x.supervise(0, 3, false);
        CHECK.refuses("no such candidate", INDEX, x, () -> x.upgrade(1, 1, true, 2, true));
        CHECK.refuses("no such one", INDEX, x, () -> x.upgrade(0, 8, true, 2, true));
        CHECK.refuses("no such other", INDEX, x, () -> x.upgrade(0, 1, true, -1, true));
        CHECK.refuses("lacks ethics", UNSUPPORTED, x, () -> x.upgrade(0, 1, true, 2, true));
        x.ethics(0);
        CHECK.refuses("both the same", UNSUPPORTED, x, () -> x.upgrade(0, 1, true, 1, true));
        CHECK.refuses("one of another house", UNSUPPORTED, x, () -> x.upgrade(0, 4, true, 1, true));
        CHECK.refuses("the other of another house", UNSUPPORTED, x, () -> x.upgrade(0, 1, true, 4, true));
        CHECK.refuses("one supervises", UNSUPPORTED, x, () -> x.upgrade(0, 0, true, 1, true));
        CHECK.refuses("the other supervises", UNSUPPORTED, x, () -> x.upgrade(0, 1, true, 3, true));
        x.pause(0, 'l');
        CHECK.refuses("is paused", UNSUPPORTED, x, () -> x.upgrade(0, 1, true, 2, true));
        x.resume(0);
        x.release(0, 3);
        x.kin(0, 1);
        CHECK.same("who supervised, and kin, may try it", x.upgrade(0, 1, true, 3, true), 'p');
        Vivahouse over = Houses.over();
        CHECK.refuses("is over", UNSUPPORTED, over, () -> over.upgrade(0, 1, true, 2, true));
    }

    private static void publish() {
        Vivahouse x = Houses.entered();
        CHECK.refuses("no such candidate", INDEX, x, () -> x.publish(1));
        for (int i = 1; i <= 9; i++) {
            CHECK.same("one more", x.publish(0), i);
        }
        CHECK.refuses("a tenth one", UNSUPPORTED, x, () -> x.publish(0));
        CHECK.same("papers", x.papers(0), 9);
        Vivahouse over = Houses.over();
        CHECK.same("one who is over publishes", over.publish(0), 1);
        Vivahouse undone = Houses.awarded();
        undone.publish(0);
        undone.ground(0, 'q');
        undone.panel(0, 2, 3, 5, 3);
        CHECK.refuses("the degree is undone", UNSUPPORTED, undone, () -> undone.publish(0));
    }

    private static void deposit() {
        Vivahouse x = Houses.upgraded();
        x.pass(5);
        CHECK.refuses("the clock is too low", UNSUPPORTED, x, () -> x.deposit(0, 0));
        x.pass(1);
        CHECK.same("the least months", x.deposit(0, 0), 1);
        CHECK.refuses("one stands", UNSUPPORTED, x, () -> x.deposit(0, 0));
        x.examiners(0, 1, 4);
        x.viva(0, 'r', 'r');
        CHECK.same("a second one", x.deposit(0, 100), 2);
        CHECK.refuses("one stands again", UNSUPPORTED, x, () -> x.deposit(0, 0));
        CHECK.refuses("no examiners of the new one", UNSUPPORTED, x, () -> x.viva(0, 'p', 'p'));
        CHECK.refuses("the new one must be cleared", UNSUPPORTED, x, () -> x.examiners(0, 1, 4));
        Vivahouse half = Houses.upgraded();
        half.mode(0, 'h');
        half.pass(11);
        CHECK.refuses("by the clock, not by months", UNSUPPORTED, half, () -> half.deposit(0, 0));
        half.pass(1);
        CHECK.same("twelve months of half time", half.deposit(0, 0), 1);
    }

    private static void depositRefuses() {
        Vivahouse x = Houses.entered();
        x.regulation(8, 20, 20, 2, 3, 3, true);
        x.candidate('f', false);
        CHECK.refuses("no such candidate", INDEX, x, () -> x.deposit(2, 101));
        CHECK.refuses("likeness -1", ARGUMENT, x, () -> x.deposit(0, -1));
        CHECK.refuses("likeness 101", ARGUMENT, x, () -> x.deposit(0, 101));
        x.pass(7);
        CHECK.refuses("not upgraded", UNSUPPORTED, x, () -> x.deposit(1, 0));
        x.upgrade(1, 1, true, 2, true);
        CHECK.refuses("the least months of its regulation", UNSUPPORTED, x, () -> x.deposit(1, 0));
        x.move(1, 0);
        x.pause(1, 'l');
        CHECK.refuses("is paused", UNSUPPORTED, x, () -> x.deposit(1, 0));
        x.resume(1);
        CHECK.same("the least months of the one it was moved to", x.deposit(1, 0), 1);
        CHECK.refuses("one who is over", UNSUPPORTED, x, () -> x.deposit(0, 0));
        CHECK.refuses("one who is over, out of range", ARGUMENT, x, () -> x.deposit(0, 101));
    }

    private static void clear() {
        Vivahouse x = Houses.upgraded();
        x.supervise(0, 3, false);
        x.pass(6);
        CHECK.refuses("no deposit", UNSUPPORTED, x, () -> x.clear(0, 1));
        x.deposit(0, 21);
        CHECK.refuses("no such candidate", INDEX, x, () -> x.clear(1, 1));
        CHECK.refuses("no such member", INDEX, x, () -> x.clear(0, 8));
        CHECK.refuses("the first one", UNSUPPORTED, x, () -> x.clear(0, 0));
        CHECK.refuses("a further one", UNSUPPORTED, x, () -> x.clear(0, 3));
        CHECK.refuses("not cleared", UNSUPPORTED, x, () -> x.examiners(0, 1, 4));
        x.release(0, 3);
        CHECK.same("who supervised may", x.clear(0, 3), 21);
        CHECK.refuses("is cleared", UNSUPPORTED, x, () -> x.clear(0, 1));
        CHECK.same("cleared", x.examiners(0, 1, 4), 0);
        x.viva(0, 'r', 'r');
        CHECK.refuses("it stands no more", UNSUPPORTED, x, () -> x.clear(0, 1));
        x.deposit(0, 20);
        CHECK.refuses("need not be", UNSUPPORTED, x, () -> x.clear(0, 1));
        CHECK.same("20 is not above 20", x.examiners(0, 1, 4), 1);
        Vivahouse other = Houses.upgraded();
        other.pass(6);
        other.deposit(0, 100);
        CHECK.same("a member of another house may", other.clear(0, 7), 100);
    }
}
