/** Promises 32 to 39: bars, examiners, vivas, corrections, awards and appeals. */
public final class VivaTest {
    private static final Class<?> INDEX = IndexOutOfBoundsException.class;
    private static final Class<?> ARGUMENT = IllegalArgumentException.class;
    private static final Class<?> UNSUPPORTED = UnsupportedOperationException.class;
    private static final Class<?> NO_SUCH = java.util.NoSuchElementException.class;
    private static final Check CHECK = new Check("VivaTest");

    private VivaTest() {
    }

    public static void main(String[] args) {
        barredBySupervisionTiesAndKin();
        barredForYears();
        barredByUse();
        barredByUseRuns();
        barredByUseNeedsAFirstOne();
        examiners();
        viva();
        results();
        referrals();
        adjudicate();
        due();
        sign();
        award();
        appeal();
        appealAgainstCorrections();
        appealInTime();
        CHECK.end();
    }

    private static void barredBySupervisionTiesAndKin() {
        Vivahouse x = Houses.supervised();
        CHECK.refuses("no such candidate", INDEX, x, () -> x.barred(2, 0));
        CHECK.refuses("no such member", INDEX, x, () -> x.barred(0, 8));
        CHECK.refuses("member below 0", INDEX, x, () -> x.barred(0, -1));
        CHECK.same("supervises", x.barred(0, 0), 's');
        x.candidate('f', false);
        CHECK.same("supervises another one", x.barred(1, 0), '-');
        CHECK.same("for no reason", x.barred(0, 4), '-');
        x.tie(4, 0, 'p');
        CHECK.same("a tie to the first one", x.barred(0, 4), 't');
        x.kin(0, 4);
        CHECK.same("a tie comes ahead of kin", x.barred(0, 4), 't');
        x.kin(0, 5);
        CHECK.same("kin of the candidate", x.barred(0, 5), 'k');
        x.kin(0, 0);
        CHECK.same("supervising comes first", x.barred(0, 0), 's');
        x.tie(6, 4, 'k');
        CHECK.same("a tie to others does not bar", x.barred(0, 6), '-');
        x.supervise(0, 1, false);
        x.tie(1, 7, 'm');
        CHECK.same("a tie to a further one", x.barred(0, 7), 't');
        x.release(0, 1);
        CHECK.same("who supervises no more", x.barred(0, 7), '-');
        CHECK.same("though it did", x.barred(0, 1), 's');
        x.supervise(0, 3, true);
        CHECK.same("kin alone is left", x.barred(0, 4), 'k');
        CHECK.same("one who was the first", x.barred(0, 0), 's');
    }

    private static void barredForYears() {
        Vivahouse x = new Vivahouse();
        x.regulation(6, 60, 60, 2, 3, 1, true);
        x.regulation(6, 60, 60, 2, 3, 0, true);
        for (int i = 0; i < 4; i++) {
            x.member(0, 400);
        }
        x.candidate('h', false);
        x.supervise(0, 0, true);
        x.pass(2);
        x.tie(0, 1, 'p');
        x.tie(2, 0, 'm');
        x.tie(3, 0, 'k');
        CHECK.same("without years a paper does not bar", x.barred(0, 1), '-');
        CHECK.same("nor does money", x.barred(0, 2), '-');
        CHECK.same("but kin does", x.barred(0, 3), 't');
        x.move(0, 0);
        CHECK.same("with years a paper bars", x.barred(0, 1), 't');
        x.pass(11);
        CHECK.same("less than a year ago, a paper", x.barred(0, 1), 't');
        CHECK.same("less than a year ago, money", x.barred(0, 2), 't');
        x.pass(1);
        CHECK.same("a year ago, a paper", x.barred(0, 1), '-');
        CHECK.same("a year ago, money", x.barred(0, 2), '-');
        CHECK.same("kin for ever", x.barred(0, 3), 't');
        x.tie(0, 1, 'm');
        CHECK.same("a newer tie", x.barred(0, 1), 't');
    }

    /** Candidates 0 to n - 1 of the first supervisor 0, upgraded, in month 6, each with a deposit. */
    private static Vivahouse manyDeposited(int n) {
        Vivahouse x = Houses.plain();
        for (int i = 0; i < n; i++) {
            x.candidate('f', false);
            x.supervise(i, 0, true);
            x.upgrade(i, 1, true, 2, true);
        }
        x.pass(6);
        for (int i = 0; i < n; i++) {
            x.deposit(i, 0);
        }
        return x;
    }

    private static void barredByUse() {
        Vivahouse x = manyDeposited(4);
        CHECK.same("no viva yet", x.examiners(0, 1, 4), 0);
        x.viva(0, 'p', 'p');
        CHECK.same("one viva", x.examiners(1, 1, 5), 1);
        CHECK.same("of one other", x.barred(2, 1), '-');
        x.pass(4);
        x.viva(1, 'p', 'f');
        CHECK.same("of two others", x.barred(2, 1), 'x');
        CHECK.same("a viva of its own does not count", x.barred(1, 1), '-');
        CHECK.same("one alone", x.barred(2, 4), '-');
        CHECK.refuses("barred as an examiner", UNSUPPORTED, x, () -> x.examiners(2, 1, 5));
        x.kin(2, 1);
        CHECK.same("kin comes first", x.barred(2, 1), 'k');
        CHECK.same("the fourth candidate", x.barred(3, 1), 'x');
        x.pass(19);
        CHECK.same("less than 24 months ago", x.barred(3, 1), 'x');
        x.pass(1);
        CHECK.same("24 months ago", x.barred(3, 1), '-');
        CHECK.same("the vivas stay counted", x.examiners(3, 1, 4), 2);
        x.supervise(2, 3, true);
        CHECK.same("soundness", x.isSound(), true);
    }

    private static void barredByUseRuns() {
        Vivahouse x = manyDeposited(4);
        x.examiners(0, 1, 4);
        x.viva(0, 'r', 'r');
        x.deposit(0, 0);
        x.examiners(0, 1, 4);
        x.viva(0, 'i', 'i');
        CHECK.same("two vivas of one candidate", x.barred(2, 1), '-');
        x.examiners(1, 1, 5);
        x.viva(1, 'f', 'f');
        CHECK.same("two candidates, one who is over", x.barred(2, 1), 'x');
        x.appeal(1, true);
        CHECK.same("the viva never was", x.barred(2, 1), '-');
        CHECK.same("nor is it counted", x.examiners(1, 1, 5), 2);
        x.viva(1, 'p', 'f');
        x.adjudicate(1, 6, 'p');
        CHECK.same("held again", x.barred(2, 1), 'x');
        CHECK.same("who adjudicates is no examiner", x.barred(2, 6), '-');
        x.supervise(0, 3, true);
        CHECK.same("whose first supervisor now is another one", x.barred(2, 1), '-');
        x.supervise(2, 3, true);
        CHECK.same("one of each", x.barred(2, 1), '-');
        x.award(1);
        x.supervise(3, 3, true);
        CHECK.same("by the first supervisor of now", x.barred(3, 1), '-');
        Vivahouse y = manyDeposited(3);
        for (int i = 0; i < 2; i++) {
            y.examiners(i, 1, 4);
            y.viva(i, 'p', 'p');
            y.award(i);
        }
        CHECK.same("both who examined, of this house", y.barred(2, 1), 'x');
        CHECK.same("and of another one", y.barred(2, 4), 'x');
        CHECK.refuses("the other one is barred", UNSUPPORTED, y, () -> y.examiners(2, 3, 4));
    }

    private static void barredByUseNeedsAFirstOne() {
        Vivahouse x = Houses.plain();
        for (int i = 0; i < 3; i++) {
            x.candidate('f', false);
            x.upgrade(i, 1, true, 2, true);
        }
        x.pass(6);
        for (int i = 0; i < 2; i++) {
            x.deposit(i, 0);
            x.examiners(i, 1, 4);
            x.viva(i, 'p', 'p');
        }
        CHECK.same("nobody is the first supervisor of any", x.barred(2, 1), '-');
    }

    private static void examiners() {
        Vivahouse x = Houses.upgraded();
        x.pass(6);
        CHECK.refuses("no deposit", UNSUPPORTED, x, () -> x.examiners(0, 1, 4));
        x.deposit(0, 20);
        CHECK.refuses("no such candidate", INDEX, x, () -> x.examiners(1, 1, 4));
        CHECK.refuses("no such one", INDEX, x, () -> x.examiners(0, 8, 4));
        CHECK.refuses("no such other", INDEX, x, () -> x.examiners(0, 1, -1));
        CHECK.refuses("one of another house", UNSUPPORTED, x, () -> x.examiners(0, 4, 5));
        CHECK.refuses("the other of this house", UNSUPPORTED, x, () -> x.examiners(0, 1, 2));
        CHECK.refuses("houses the other way round", UNSUPPORTED, x, () -> x.examiners(0, 4, 1));
        CHECK.refuses("one is barred", UNSUPPORTED, x, () -> x.examiners(0, 0, 4));
        x.kin(0, 5);
        CHECK.refuses("the other is barred", UNSUPPORTED, x, () -> x.examiners(0, 1, 5));
        CHECK.same("told", x.examiners(0, 1, 4), 0);
        CHECK.same("told anew", x.examiners(0, 2, 6), 0);
        x.viva(0, 'j', 'j');
        CHECK.refuses("there was a viva of it", UNSUPPORTED, x, () -> x.examiners(0, 1, 4));
        CHECK.refuses("who was told first signs nothing", UNSUPPORTED, x, () -> x.sign(0, 1));
        CHECK.same("who was told last does", x.sign(0, 6), false);
        Vivahouse split = Houses.after('p', 'f');
        CHECK.refuses("a split viva is one", UNSUPPORTED, split, () -> split.examiners(0, 1, 4));
    }

    private static void viva() {
        Vivahouse x = Houses.deposited();
        CHECK.refuses("no such candidate", INDEX, x, () -> x.viva(1, '?', 'p'));
        CHECK.refuses("no such letter of one", ARGUMENT, x, () -> x.viva(0, 'x', 'p'));
        CHECK.refuses("no such letter of the other", ARGUMENT, x, () -> x.viva(0, 'p', 'P'));
        CHECK.refuses("no examiners", UNSUPPORTED, x, () -> x.viva(0, 'p', 'p'));
        x.examiners(0, 1, 4);
        x.tie(0, 4, 'k');
        x.pause(0, 's');
        CHECK.same("held in a pause", x.viva(0, 'p', 'p'), 'p');
        CHECK.refuses("there was one", UNSUPPORTED, x, () -> x.viva(0, 'p', 'p'));
        Vivahouse none = Houses.upgraded();
        CHECK.refuses("no deposit", UNSUPPORTED, none, () -> none.viva(0, 'p', 'p'));
        CHECK.refuses("no letter and no deposit", ARGUMENT, none, () -> none.viva(0, 'p', '?'));
        Vivahouse split = Houses.after('p', 'f');
        CHECK.refuses("a split one was one", UNSUPPORTED, split, () -> split.viva(0, 'p', 'p'));
    }

    private static void results() {
        String letters = "pijrmf";
        for (int i = 0; i < 6; i++) {
            for (int j = 0; j < 6; j++) {
                Vivahouse x = Houses.examined();
                char want = Math.abs(i - j) > 1 ? '?' : letters.charAt(Math.max(i, j));
                CHECK.same("viva " + i + " " + j, x.viva(0, letters.charAt(i), letters.charAt(j)), want);
                boolean isOver = want == 'm' || want == 'f';
                CHECK.same("state after " + i + " " + j, x.state(0), isOver ? 'o' : 'a');
                CHECK.same("outcome after " + i + " " + j, x.outcome(0), isOver ? want : '-');
                boolean isDue = want == 'i' || want == 'j';
                String due = isDue ? want == 'i' ? "8" : "9" : "throws.NoSuchElementException";
                CHECK.same("due after " + i + " " + j, Check.outcomeOf(() -> x.due(0)), due);
                String award = want == 'p' ? "1" : "throws.UnsupportedOperationException";
                CHECK.same("award after " + i + " " + j, Check.outcomeOf(() -> x.award(0)), award);
                String again = want == 'r' ? "2" : "throws.UnsupportedOperationException";
                CHECK.same("deposit after " + i + " " + j, Check.outcomeOf(() -> x.deposit(0, 0)), again);
                CHECK.same("soundness after " + i + " " + j, x.isSound(), true);
            }
        }
    }

    private static void referrals() {
        Vivahouse x = Houses.after('j', 'r');
        x.deposit(0, 0);
        x.examiners(0, 1, 4);
        CHECK.same("the second one is as m", x.viva(0, 'r', 'j'), 'm');
        CHECK.same("outcome", x.outcome(0), 'm');
        x.appeal(0, true);
        CHECK.same("and after an appeal it is again", x.viva(0, 'r', 'r'), 'm');
        CHECK.same("over", x.state(0), 'o');
        Vivahouse y = Houses.after('m', 'm');
        y.appeal(0, true);
        CHECK.same("the first one after an appeal is not", y.viva(0, 'r', 'r'), 'r');
        CHECK.same("goes on", y.deposit(0, 0), 2);
    }

    private static void adjudicate() {
        Vivahouse x = Houses.after('p', 'j');
        x.kin(0, 5);
        CHECK.refuses("no such candidate", INDEX, x, () -> x.adjudicate(1, 6, '?'));
        CHECK.refuses("no such member", INDEX, x, () -> x.adjudicate(0, 8, '?'));
        CHECK.refuses("no such letter", ARGUMENT, x, () -> x.adjudicate(0, 6, '?'));
        CHECK.refuses("of this house", UNSUPPORTED, x, () -> x.adjudicate(0, 2, 'p'));
        CHECK.refuses("an examiner of it", UNSUPPORTED, x, () -> x.adjudicate(0, 4, 'p'));
        CHECK.refuses("barred", UNSUPPORTED, x, () -> x.adjudicate(0, 5, 'p'));
        x.pass(2);
        CHECK.same("any result", x.adjudicate(0, 6, 'i'), 'i');
        CHECK.same("due by the month of the result", x.due(0), 10);
        CHECK.refuses("none is split any more", UNSUPPORTED, x, () -> x.adjudicate(0, 6, 'i'));
        CHECK.refuses("who adjudicated signs nothing", UNSUPPORTED, x, () -> x.sign(0, 6));
        CHECK.same("an examiner does", x.sign(0, 1), true);
        Vivahouse whole = Houses.after('p', 'p');
        CHECK.refuses("never split", UNSUPPORTED, whole, () -> whole.adjudicate(0, 6, 'p'));
        CHECK.refuses("never split, no letter", ARGUMENT, whole, () -> whole.adjudicate(0, 6, 'q'));
        Vivahouse none = Houses.examined();
        CHECK.refuses("no viva", UNSUPPORTED, none, () -> none.adjudicate(0, 6, 'p'));
        Vivahouse bare = Houses.entered();
        CHECK.refuses("no deposit", UNSUPPORTED, bare, () -> bare.adjudicate(0, 6, 'p'));
        String letters = "pijrmf";
        for (int i = 0; i < 6; i++) {
            char letter = letters.charAt(i);
            Vivahouse each = Houses.after('i', 'm');
            CHECK.same("the result " + letter, each.adjudicate(0, 5, letter), letter);
            CHECK.same("its state", each.state(0), i < 4 ? 'a' : 'o');
        }
        Vivahouse second = Houses.after('r', 'r');
        second.deposit(0, 0);
        second.examiners(0, 1, 4);
        second.viva(0, 'f', 'p');
        CHECK.same("m in place of a second r", second.adjudicate(0, 7, 'r'), 'm');
        CHECK.same("its outcome", second.outcome(0), 'm');
        CHECK.same("an appeal against it", second.appeal(0, false), false);
    }

    private static void due() {
        Vivahouse x = Houses.after('j', 'j');
        x.regulation(6, 12, 6, 9, 9, 3, true);
        CHECK.refuses("no such candidate", INDEX, x, () -> x.due(1));
        CHECK.same("major ones", x.due(0), 9);
        x.move(0, 1);
        CHECK.same("a move changes no date that was told", x.due(0), 9);
        x.sign(0, 1);
        CHECK.same("signed by one alone", x.due(0), 9);
        x.sign(0, 4);
        CHECK.refuses("signed", NO_SUCH, x, () -> x.due(0));
        Vivahouse none = Houses.examined();
        CHECK.refuses("no viva", NO_SUCH, none, () -> none.due(0));
        Vivahouse bare = Houses.entered();
        CHECK.refuses("no deposit", NO_SUCH, bare, () -> bare.due(0));
        Vivahouse moved = Houses.examined();
        moved.regulation(6, 12, 6, 24, 1, 3, true);
        moved.move(0, 1);
        moved.viva(0, 'p', 'i');
        CHECK.same("by the regulation that holds", moved.due(0), 30);
        Vivahouse late = Houses.after('i', 'i');
        late.pass(3);
        CHECK.refuses("over by them, none are due", NO_SUCH, late, () -> late.due(0));
        CHECK.refuses("nor can they be signed", UNSUPPORTED, late, () -> late.sign(0, 1));
    }

    private static void sign() {
        Vivahouse minor = Houses.after('i', 'p');
        CHECK.refuses("no such candidate", INDEX, minor, () -> minor.sign(1, 1));
        CHECK.refuses("no such member", INDEX, minor, () -> minor.sign(0, 8));
        CHECK.refuses("no examiner", UNSUPPORTED, minor, () -> minor.sign(0, 2));
        CHECK.refuses("a supervisor", UNSUPPORTED, minor, () -> minor.sign(0, 0));
        CHECK.same("minor ones by one", minor.sign(0, 1), true);
        CHECK.refuses("none are due any more", UNSUPPORTED, minor, () -> minor.sign(0, 4));
        CHECK.same("the award is open", minor.award(0), 1);
        Vivahouse major = Houses.after('i', 'j');
        CHECK.same("major ones by one", major.sign(0, 4), false);
        CHECK.refuses("has signed", UNSUPPORTED, major, () -> major.sign(0, 4));
        CHECK.refuses("the award is not open", UNSUPPORTED, major, () -> major.award(0));
        major.pass(3);
        major.pause(0, 'l');
        CHECK.same("by the other one, in the last month", major.sign(0, 1), true);
        CHECK.refuses("signed whole", UNSUPPORTED, major, () -> major.sign(0, 4));
        CHECK.same("the award is open then", major.award(0), 1);
        Vivahouse none = Houses.after('p', 'p');
        CHECK.refuses("none are due", UNSUPPORTED, none, () -> none.sign(0, 1));
        Vivahouse ahead = Houses.examined();
        CHECK.refuses("no viva", UNSUPPORTED, ahead, () -> ahead.sign(0, 1));
    }

    private static void award() {
        Vivahouse x = manyDeposited(2);
        CHECK.refuses("no such candidate", INDEX, x, () -> x.award(2));
        CHECK.refuses("not open", UNSUPPORTED, x, () -> x.award(0));
        x.examiners(0, 1, 4);
        x.viva(0, 'p', 'p');
        x.examiners(1, 1, 4);
        x.viva(1, 'p', 'p');
        x.pass(20);
        CHECK.same("it stays open", x.award(1), 1);
        CHECK.same("state", x.state(1), 'o');
        CHECK.same("outcome", x.outcome(1), 'p');
        CHECK.same("the clock", x.clock(1), 52);
        CHECK.refuses("a second time", UNSUPPORTED, x, () -> x.award(1));
        CHECK.refuses("no appeal against it", UNSUPPORTED, x, () -> x.appeal(1, true));
        x.ground(1, 'q');
        x.panel(1, 2, 3, 5, 3);
        CHECK.same("undone ones are counted too", x.award(0), 2);
        x.pass(1);
        CHECK.same("the clock stands", x.clock(1), 52);
        CHECK.same("soundness", x.isSound(), true);
    }

    private static void appeal() {
        Vivahouse x = Houses.after('f', 'f');
        CHECK.refuses("no such candidate", INDEX, x, () -> x.appeal(1, true));
        CHECK.same("upheld", x.appeal(0, true), true);
        CHECK.same("state", x.state(0), 'a');
        CHECK.same("outcome", x.outcome(0), '-');
        CHECK.refuses("the deposit stands", UNSUPPORTED, x, () -> x.deposit(0, 0));
        CHECK.refuses("its examiners are told", UNSUPPORTED, x, () -> x.supervise(0, 1, false));
        x.pass(2);
        CHECK.same("the clock goes again", x.clock(0), 16);
        CHECK.same("held again", x.viva(0, 'f', 'f'), 'f');
        CHECK.refuses("once in all", UNSUPPORTED, x, () -> x.appeal(0, true));
        CHECK.same("soundness", x.isSound(), true);
        Vivahouse told = Houses.after('m', 'f');
        told.appeal(0, true);
        CHECK.same("its examiners may be told anew", told.examiners(0, 1, 5), 0);
        Vivahouse not = Houses.after('m', 'm');
        CHECK.same("not upheld", not.appeal(0, false), false);
        CHECK.same("all stays: state", not.state(0), 'o');
        CHECK.same("all stays: outcome", not.outcome(0), 'm');
        CHECK.refuses("not upheld, and once in all", UNSUPPORTED, not, () -> not.appeal(0, true));
        Vivahouse active = Houses.examined();
        CHECK.refuses("one who is not over", UNSUPPORTED, active, () -> active.appeal(0, true));
        Vivahouse without = Houses.entered();
        without.pass(6);
        CHECK.refuses("over by the upgrade's months", UNSUPPORTED, without, () -> without.appeal(0, true));
        Vivahouse paused = Houses.examined();
        paused.pause(0, 's');
        paused.viva(0, 'f', 'f');
        paused.appeal(0, true);
        CHECK.same("the pause is gone", paused.state(0), 'a');
        paused.pass(1);
        CHECK.same("and the clock goes", paused.clock(0), 14);
        CHECK.same("and is sound", paused.isSound(), true);
    }

    private static void appealAgainstCorrections() {
        Vivahouse x = Houses.after('j', 'j');
        x.sign(0, 1);
        x.pass(4);
        CHECK.same("over by corrections", x.outcome(0), 'f');
        CHECK.same("upheld", x.appeal(0, true), true);
        CHECK.refuses("no corrections are due", NO_SUCH, x, () -> x.due(0));
        CHECK.refuses("and none are signed", UNSUPPORTED, x, () -> x.sign(0, 4));
        x.pass(5);
        CHECK.same("goes on", x.state(0), 'a');
        CHECK.same("a viva anew", x.viva(0, 'j', 'j'), 'j');
        CHECK.same("with its own signatures", x.sign(0, 1), false);
        CHECK.same("by both", x.sign(0, 4), true);
        CHECK.same("to the award", x.award(0), 1);
        CHECK.same("the clock without the months over", x.clock(0), 30);
        CHECK.same("soundness", x.isSound(), true);
        Vivahouse y = Houses.after('p', 'f');
        y.adjudicate(0, 5, 'i');
        y.pass(3);
        CHECK.same("adjudged ones as well", y.appeal(0, true), true);
        CHECK.refuses("none is split", UNSUPPORTED, y, () -> y.adjudicate(0, 5, 'p'));
        CHECK.same("a viva anew then", y.viva(0, 'p', 'p'), 'p');
    }

    private static void appealInTime() {
        Vivahouse viva = Houses.after('f', 'f');
        viva.pass(2);
        CHECK.same("two months behind a viva", viva.appeal(0, true), true);
        viva.pass(1);
        CHECK.same("the months over are not in the clock", viva.clock(0), 14);
        CHECK.same("soundness", viva.isSound(), true);
        Vivahouse late = Houses.after('f', 'f');
        late.pass(3);
        CHECK.refuses("three months behind a viva", UNSUPPORTED, late, () -> late.appeal(0, true));
        Vivahouse corrections = Houses.after('i', 'i');
        corrections.pass(4);
        CHECK.same("two months behind the one that went by", corrections.appeal(0, true), true);
        Vivahouse lateOnes = Houses.after('i', 'i');
        lateOnes.pass(5);
        CHECK.refuses("three months behind it", UNSUPPORTED, lateOnes, () -> lateOnes.appeal(0, true));
    }
}
