/** Promises 7 to 18: modes, pauses, moves, extensions, months, and what the clock tells. */
public final class ClockTest {
    private static final Class<?> INDEX = IndexOutOfBoundsException.class;
    private static final Class<?> ARGUMENT = IllegalArgumentException.class;
    private static final Class<?> STATE = IllegalStateException.class;
    private static final Class<?> UNSUPPORTED = UnsupportedOperationException.class;
    private static final Class<?> NO_SUCH = java.util.NoSuchElementException.class;
    private static final Check CHECK = new Check("ClockTest");

    private ClockTest() {
    }

    public static void main(String[] args) {
        mode();
        pause();
        pausesOfEachKind();
        resume();
        move();
        extend();
        pass();
        endsWithoutUpgrade();
        endsAtTheLimit();
        endsWithCorrectionsDue();
        months();
        reaches();
        lettersAndNumbersOfNobody();
        CHECK.end();
    }

    private static void mode() {
        Vivahouse x = Houses.entered();
        CHECK.refuses("mode of nobody", INDEX, x, () -> x.mode(1, 'x'));
        CHECK.refuses("no such mode", ARGUMENT, x, () -> x.mode(0, 'F'));
        x.pass(1);
        CHECK.same("the mode before", x.mode(0, 'h'), 'f');
        CHECK.same("the clock so far", x.clock(0), 2);
        x.pass(2);
        CHECK.same("halves in half time", x.clock(0), 4);
        CHECK.same("told again", x.mode(0, 'h'), 'h');
        CHECK.same("back in a month", x.mode(0, 'f'), 'h');
        CHECK.same("and half again", x.mode(0, 'h'), 'f');
        x.pass(1);
        CHECK.same("what was told last holds for the month", x.clock(0), 5);
        x.pause(0, 'w');
        CHECK.same("mode of a paused one", x.mode(0, 'f'), 'h');
        x.resume(0);
        x.pass(1);
        CHECK.same("halves in full time", x.clock(0), 7);
        CHECK.same("soundness", x.isSound(), true);
        Vivahouse over = Houses.over();
        CHECK.refuses("mode of one who is over", UNSUPPORTED, over, () -> over.mode(0, 'h'));
        CHECK.refuses("no such mode of one who is over", ARGUMENT, over, () -> over.mode(0, '-'));
    }

    private static void pause() {
        Vivahouse x = Houses.entered();
        CHECK.refuses("pause of nobody", INDEX, x, () -> x.pause(1, 'x'));
        CHECK.refuses("no such kind", ARGUMENT, x, () -> x.pause(0, 'a'));
        CHECK.same("a first pause", x.pause(0, 's'), 1);
        CHECK.same("state", x.state(0), 'p');
        CHECK.refuses("a pause in a pause", UNSUPPORTED, x, () -> x.pause(0, 'l'));
        CHECK.refuses("no kind in a pause", ARGUMENT, x, () -> x.pause(0, 'k'));
        x.resume(0);
        CHECK.same("a second pause", x.pause(0, 'w'), 2);
        x.resume(0);
        CHECK.same("a third pause", x.pause(0, 'l'), 3);
        Vivahouse over = Houses.over();
        CHECK.refuses("pause of one who is over", UNSUPPORTED, over, () -> over.pause(0, 's'));
    }

    private static void pausesOfEachKind() {
        Vivahouse x = new Vivahouse();
        x.regulation(6, 12, 12, 2, 3, 3, true);
        x.candidate('f', false);
        x.candidate('h', false);
        x.candidate('f', false);
        x.candidate('f', false);
        x.regulation(6, 12, 12, 2, 3, 3, false);
        x.candidate('f', false);
        x.pause(0, 'l');
        x.pause(1, 'l');
        x.pause(2, 's');
        x.pause(3, 'w');
        x.pause(4, 'l');
        x.pass(3);
        CHECK.same("leave that counts, full time", x.clock(0), 6);
        CHECK.same("leave that counts, half time", x.clock(1), 3);
        CHECK.same("sick", x.clock(2), 0);
        CHECK.same("work", x.clock(3), 0);
        CHECK.same("leave that does not count", x.clock(4), 0);
        x.move(0, 1);
        x.move(4, 0);
        x.pass(1);
        CHECK.same("moved to where leave does not count", x.clock(0), 6);
        CHECK.same("moved to where leave counts", x.clock(4), 2);
        CHECK.same("soundness", x.isSound(), true);
    }

    private static void resume() {
        Vivahouse x = Houses.entered();
        CHECK.refuses("resume of nobody", INDEX, x, () -> x.resume(-1));
        CHECK.refuses("resume of an active one", UNSUPPORTED, x, () -> x.resume(0));
        x.pass(2);
        x.pause(0, 's');
        CHECK.same("within a month", x.resume(0), 0);
        CHECK.same("state", x.state(0), 'a');
        x.pause(0, 's');
        x.pass(5);
        CHECK.same("months of the pause", x.resume(0), 5);
        x.pass(1);
        CHECK.same("the clock goes again", x.clock(0), 6);
        Vivahouse over = Houses.over();
        CHECK.refuses("resume of one who is over", UNSUPPORTED, over, () -> over.resume(0));
    }

    private static void move() {
        Vivahouse x = Houses.entered();
        x.regulation(6, 20, 6, 2, 3, 3, true);
        x.candidate('f', false);
        CHECK.refuses("move of nobody", INDEX, x, () -> x.move(2, 1));
        CHECK.refuses("no such regulation", INDEX, x, () -> x.move(0, 2));
        CHECK.refuses("regulation below 0", INDEX, x, () -> x.move(0, -1));
        CHECK.refuses("to the same one", UNSUPPORTED, x, () -> x.move(0, 0));
        CHECK.same("the one before", x.move(0, 1), 0);
        CHECK.same("limit", x.limit(0), 40);
        CHECK.refuses("a second time", UNSUPPORTED, x, () -> x.move(0, 0));
        CHECK.same("back to an older one", x.move(1, 0), 1);
        CHECK.same("its limit", x.limit(1), 24);
        Vivahouse over = Houses.over();
        over.regulation(6, 20, 6, 2, 3, 3, true);
        CHECK.refuses("move of one who is over", UNSUPPORTED, over, () -> over.move(0, 1));
        CHECK.refuses("move of one who is over to nowhere", INDEX, over, () -> over.move(0, 2));
    }

    private static void extend() {
        Vivahouse x = Houses.entered();
        CHECK.refuses("extend nobody", INDEX, x, () -> x.extend(1, 0));
        CHECK.refuses("by 0 months", ARGUMENT, x, () -> x.extend(0, 0));
        CHECK.refuses("by 13 months", ARGUMENT, x, () -> x.extend(0, 13));
        CHECK.same("by 1", x.extend(0, 1), 26);
        CHECK.same("by 12", x.extend(0, 12), 50);
        x.pause(0, 's');
        CHECK.same("a third one, in a pause", x.extend(0, 2), 54);
        CHECK.same("limit", x.limit(0), 54);
        CHECK.refuses("a fourth one", UNSUPPORTED, x, () -> x.extend(0, 1));
        CHECK.refuses("a fourth one out of range", ARGUMENT, x, () -> x.extend(0, 13));
        Vivahouse over = Houses.over();
        CHECK.refuses("extend one who is over", UNSUPPORTED, over, () -> over.extend(0, 1));
        CHECK.same("limit of one who is over", over.limit(0), 24);
    }

    private static void pass() {
        Vivahouse x = Houses.plain();
        CHECK.refuses("0 months", ARGUMENT, x, () -> x.pass(0));
        CHECK.refuses("61 months", ARGUMENT, x, () -> x.pass(61));
        CHECK.refuses("less than no months", ARGUMENT, x, () -> x.pass(Integer.MIN_VALUE));
        CHECK.same("1 month", x.pass(1), 1);
        for (int i = 1; i < 10; i++) {
            CHECK.same("60 months", x.pass(60), 1 + 60 * i);
        }
        CHECK.refuses("above 600", STATE, x, () -> x.pass(60));
        CHECK.refuses("above 600 out of range", ARGUMENT, x, () -> x.pass(61));
        CHECK.same("up to 600", x.pass(59), 600);
        CHECK.same("month", x.month(), 600);
        CHECK.refuses("beyond 600", STATE, x, () -> x.pass(1));
    }

    private static void endsWithoutUpgrade() {
        Vivahouse x = Houses.entered();
        x.candidate('h', false);
        x.pass(5);
        CHECK.same("a month ahead", x.outcome(0), '-');
        x.pass(1);
        CHECK.same("the upgrade's month", x.outcome(0), 'n');
        CHECK.same("state", x.state(0), 'o');
        CHECK.same("the month counted", x.clock(0), 12);
        x.pass(5);
        CHECK.same("the clock of one who is over", x.clock(0), 12);
        CHECK.same("half time is not there", x.state(1), 'a');
        x.pass(1);
        CHECK.same("half time is there", x.outcome(1), 'n');
        CHECK.same("soundness", x.isSound(), true);
        Vivahouse y = new Vivahouse();
        y.regulation(6, 6, 6, 1, 1, 0, false);
        y.candidate('f', false);
        y.pass(6);
        CHECK.same("the upgrade comes ahead of the limit", y.outcome(0), 'n');
        Vivahouse z = new Vivahouse();
        z.regulation(6, 20, 3, 1, 1, 0, false);
        z.regulation(6, 20, 20, 1, 1, 0, false);
        z.candidate('f', false);
        z.pass(10);
        z.move(0, 0);
        z.pause(0, 's');
        CHECK.same("only a month that goes by ends it", z.state(0), 'p');
        z.pass(1);
        CHECK.same("above its months, in a pause", z.outcome(0), 'n');
    }

    private static void endsAtTheLimit() {
        Vivahouse x = Houses.upgraded();
        x.pass(11);
        CHECK.same("a month ahead", x.outcome(0), '-');
        x.pass(1);
        CHECK.same("at the limit", x.outcome(0), 'l');
        CHECK.same("state", x.state(0), 'o');
        Vivahouse late = Houses.upgraded();
        late.extend(0, 2);
        late.pass(13);
        CHECK.same("extended", late.outcome(0), '-');
        late.pass(1);
        CHECK.same("at the extended limit", late.outcome(0), 'l');
        Vivahouse deposited = Houses.deposited();
        deposited.pass(20);
        CHECK.same("with a deposit", deposited.outcome(0), '-');
        CHECK.same("the clock goes on", deposited.clock(0), 52);
        deposited.examiners(0, 1, 4);
        deposited.viva(0, 'r', 'r');
        CHECK.same("referred above the limit", deposited.state(0), 'a');
        deposited.pass(1);
        CHECK.same("and a month later", deposited.outcome(0), 'l');
    }

    private static void endsWithCorrectionsDue() {
        Vivahouse minor = Houses.after('i', 'i');
        minor.pass(2);
        CHECK.same("minor ones in the month in which they are due", minor.outcome(0), '-');
        minor.pause(0, 's');
        minor.pass(1);
        CHECK.same("when it went by", minor.outcome(0), 'f');
        CHECK.same("state", minor.state(0), 'o');
        Vivahouse major = Houses.after('j', 'j');
        major.sign(0, 1);
        major.pass(3);
        CHECK.same("major ones in the month in which they are due", major.outcome(0), '-');
        major.pass(1);
        CHECK.same("signed by one alone", major.outcome(0), 'f');
        Vivahouse signed = Houses.after('i', 'i');
        signed.sign(0, 4);
        signed.pass(30);
        CHECK.same("signed ones", signed.outcome(0), '-');
        CHECK.same("soundness", minor.isSound() && major.isSound() && signed.isSound(), true);
    }

    private static void months() {
        Vivahouse x = Houses.plain();
        x.pass(7);
        CHECK.same("month", x.month(), 7);
        x.candidate('f', false);
        CHECK.same("clock of who just entered", x.clock(0), 0);
        x.pass(2);
        CHECK.same("clock two months later", x.clock(0), 4);
        CHECK.same("soundness", x.isSound(), true);
    }

    private static void reaches() {
        Vivahouse x = Houses.entered();
        CHECK.refuses("reaches of nobody", INDEX, x, () -> x.reaches(1));
        CHECK.same("in full time", x.reaches(0), 12);
        x.pass(1);
        x.mode(0, 'h');
        CHECK.same("in half time", x.reaches(0), 23);
        x.pass(1);
        x.mode(0, 'f');
        CHECK.same("an odd half is left", x.reaches(0), 13);
        x.extend(0, 1);
        CHECK.same("extended", x.reaches(0), 14);
        x.pause(0, 'l');
        CHECK.same("in a leave that counts", x.reaches(0), 14);
        x.resume(0);
        x.pause(0, 'w');
        CHECK.refuses("the clock stands", NO_SUCH, x, () -> x.reaches(0));
        Vivahouse deposited = Houses.deposited();
        deposited.pass(5);
        CHECK.same("a month ahead of it", deposited.reaches(0), 12);
        deposited.pass(1);
        CHECK.same("the limit is there", deposited.reaches(0), 12);
        deposited.pass(3);
        CHECK.same("the limit was there", deposited.reaches(0), 15);
        deposited.pause(0, 's');
        CHECK.same("it is there while the clock stands", deposited.reaches(0), 15);
        Vivahouse over = Houses.over();
        CHECK.refuses("one who is over", NO_SUCH, over, () -> over.reaches(0));
        Vivahouse late = Houses.plain();
        for (int i = 0; i < 10; i++) {
            late.pass(i < 9 ? 60 : 59);
        }
        late.candidate('h', false);
        CHECK.same("beyond the last month", late.reaches(0), 623);
    }

    private static void lettersAndNumbersOfNobody() {
        Vivahouse x = Houses.entered();
        for (int nobody : new int[] {-1, 1, 12, Integer.MAX_VALUE, Integer.MIN_VALUE}) {
            CHECK.refuses("clock of nobody", INDEX, x, () -> x.clock(nobody));
            CHECK.refuses("limit of nobody", INDEX, x, () -> x.limit(nobody));
            CHECK.refuses("state of nobody", INDEX, x, () -> x.state(nobody));
            CHECK.refuses("outcome of nobody", INDEX, x, () -> x.outcome(nobody));
        }
    }
}
