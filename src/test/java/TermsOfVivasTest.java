/** The terms on examiners, vivas, appeals and undoing: each sentence, on both sides of its bounds. */
public final class TermsOfVivasTest {
    private static final String ORDER = "pijrmf";
    private static final Check CHECK = new Check("TermsOfVivasTest");

    private TermsOfVivasTest() {
    }

    public static void main(String[] args) {
        examiners();
        barsInOrder();
        barsNow();
        barredByUse();
        usedByTwoOthers();
        letters();
        split();
        adjudicated();
        open();
        corrections();
        referred();
        over();
        signed();
        appeals();
        appealsInTime();
        upheld();
        notUpheld();
        grounds();
        panels();
        undone();
        sums();
        CHECK.end();
    }

    private static void holds(String sentence, Vivahouse house, String script) {
        Script.run(CHECK, sentence, house, script);
    }

    /** Candidates 0 to n - 1 of the first supervisor 0, upgraded, in month 6, each with a deposit. */
    private static Vivahouse manyDeposited(int n) {
        Vivahouse x = Houses.plain();
        for (int i = 0; i < n; i++) {
            x.candidate('f', false);
            x.supervise(i, 0, true);
            x.upgrade(i, 1, true, 2, true);
        }
        x.pass(6);
        for (int i = 0; i < n; i++) {
            x.deposit(i, 0);
        }
        return x;
    }

    /** As above, with vivas of 0 and 1, both by the examiners 1 and 4; 0's was in month 6, 1's in month 7. */
    private static Vivahouse used(int n) {
        Vivahouse x = manyDeposited(n);
        x.examiners(0, 1, 4);
        x.examiners(1, 1, 4);
        x.viva(0, 'p', 'p');
        x.pass(1);
        x.viva(1, 'p', 'p');
        return x;
    }

    private static void examiners() {
        holds("for a deposit that stands", Houses.upgraded(), """
                pass(6); examiners(0, 1, 4) throws Unsupported; deposit(0, 0); examiners(0, 1, 4) = 0
                """);
        holds("not for one that was referred", Houses.after('r', 'r'),
                "examiners(0, 1, 4) throws Unsupported; deposit(0, 0); examiners(0, 1, 4) = 1");
        holds("told anew as long as there was no viva of it", Houses.examined(), """
                examiners(0, 2, 5) = 0; examiners(0, 2, 5) = 0; viva(0, 'j', 'j');
                examiners(0, 1, 4) throws Unsupported; sign(0, 1) throws Unsupported; sign(0, 2) = false;
                sign(0, 5) = true
                """);
        holds("a split viva is one", Houses.after('p', 'f'), "examiners(0, 1, 4) throws Unsupported");
        holds("one of this house, one of another one", Houses.deposited(), """
                examiners(0, 1, 2) throws Unsupported; examiners(0, 4, 5) throws Unsupported;
                examiners(0, 4, 1) throws Unsupported; examiners(0, 1, 1) throws Unsupported;
                examiners(0, 4, 4) throws Unsupported; examiners(0, 1, 4) = 0
                """);
        holds("neither barred", Houses.deposited(), """
                kin(0, 2); kin(0, 5); examiners(0, 2, 4) throws Unsupported; examiners(0, 1, 5) throws Unsupported;
                examiners(0, 0, 4) throws Unsupported; viva(0, 'p', 'p') throws Unsupported; examiners(0, 1, 4) = 0
                """);
        holds("in a pause", Houses.deposited(),
                "pause(0, 's'); examiners(0, 1, 4) = 0; viva(0, 'p', 'p') = 'p'; award(0) = 1");
        holds("vivas of the first one are counted, over all candidates", manyDeposited(3), """
                examiners(0, 1, 4) = 0; examiners(0, 1, 5) = 0; viva(0, 'r', 'r'); deposit(0, 0);
                examiners(0, 1, 4) = 1; examiners(1, 1, 4) = 1; viva(0, 'p', 'f'); examiners(1, 1, 4) = 2;
                viva(1, 'p', 'p'); examiners(2, 3, 5) = 0
                """);
    }

    private static void barsInOrder() {
        holds("for no reason", Houses.supervised(), "barred(0, 1) = '-'; barred(0, 7) = '-'");
        holds("s comes first", Houses.supervised(), """
                supervise(0, 1, false); tie(0, 1, 'm'); kin(0, 1); barred(0, 1) = 's'; release(0, 1);
                barred(0, 1) = 's'
                """);
        holds("t comes next", Houses.supervised(), "tie(0, 1, 'm'); kin(0, 1); barred(0, 1) = 't'");
        holds("k comes next", used(3),
                "barred(2, 1) = 'x'; kin(2, 1); barred(2, 1) = 'k'; tie(1, 0, 'p'); barred(2, 1) = 't'");
        holds("x comes last", used(3), "barred(2, 1) = 'x'; barred(2, 4) = 'x'; barred(2, 2) = '-'");
        holds("t comes ahead of x", used(3), "tie(4, 0, 'k'); barred(2, 4) = 't'");
    }

    private static void barsNow() {
        holds("a tie to one who supervises now", Houses.supervised(), """
                supervise(0, 1, false); tie(1, 4, 'k'); barred(0, 4) = 't'; release(0, 1); barred(0, 4) = '-';
                supervise(0, 1, false); barred(0, 4) = 't'
                """);
        holds("not to a first one who went", Houses.supervised(),
                "tie(0, 4, 'k'); barred(0, 4) = 't'; supervise(0, 1, true); barred(0, 4) = '-'");
        holds("a tie to the last further one", Houses.supervised(), """
                supervise(0, 1, false); supervise(0, 2, false); tie(2, 4, 'p'); barred(0, 4) = 't'
                """);
        holds("a tie to anyone else does not", Houses.supervised(),
                "tie(4, 5, 'k'); tie(1, 4, 'k'); barred(0, 4) = '-'");
        holds("kin of another candidate is not barred", Houses.supervised(),
                "candidate('f', false); kin(1, 4); barred(0, 4) = '-'; barred(1, 4) = 'k'");
        holds("a bar that comes later does not undo what was told", Houses.examined(), """
                kin(0, 1); kin(0, 4); barred(0, 1) = 'k'; viva(0, 'i', 'i') = 'i'; sign(0, 1) = true
                """);
        holds("without supervisors no tie bars", Houses.entered(), "tie(4, 0, 'k'); barred(0, 4) = '-'");
    }

    private static void barredByUse() {
        holds("23 months ago", used(3), "pass(22) = 29; barred(2, 1) = 'x'");
        holds("24 months ago, one of them", used(3), "pass(23) = 30; barred(2, 1) = '-'");
        holds("barred in the month of the viva", used(3), "barred(2, 1) = 'x'; examiners(2, 1, 5) throws Unsupported");
        holds("a viva that is split", manyDeposited(3), """
                examiners(0, 1, 4); examiners(1, 1, 5); viva(0, 'p', 'f'); viva(1, 'p', 'f'); barred(2, 1) = 'x';
                barred(2, 4) = '-'
                """);
        holds("by the month of the viva, not of the result", manyDeposited(3), """
                examiners(0, 1, 4); examiners(1, 1, 4); viva(0, 'p', 'f'); viva(1, 'p', 'f'); pass(23);
                adjudicate(0, 5, 'p'); adjudicate(1, 5, 'p'); barred(2, 1) = 'x'; pass(1); barred(2, 1) = '-'
                """);
        holds("examiners alone, without a viva, do not count", manyDeposited(3),
                "examiners(0, 1, 4); examiners(1, 1, 4); barred(2, 1) = '-'; examiners(2, 1, 4) = 0");
        holds("who adjudicates is no examiner", manyDeposited(3), """
                examiners(0, 1, 4); examiners(1, 1, 5); viva(0, 'p', 'f'); viva(1, 'p', 'f'); adjudicate(0, 6, 'p');
                adjudicate(1, 6, 'p'); barred(2, 6) = '-'
                """);
    }

    private static void usedByTwoOthers() {
        holds("two others are enough", used(3), "barred(2, 1) = 'x'");
        holds("one other is not", used(3), "barred(0, 1) = '-'; barred(1, 1) = '-'");
        holds("two vivas of one other are one", manyDeposited(2), """
                examiners(0, 1, 4); viva(0, 'r', 'r'); deposit(0, 0); examiners(0, 1, 4); viva(0, 'p', 'p');
                barred(1, 1) = '-'
                """);
        holds("three others are more", manyDeposited(4), """
                examiners(0, 1, 4); examiners(1, 1, 4); examiners(2, 1, 4); viva(0, 'p', 'p'); viva(1, 'p', 'p');
                viva(2, 'p', 'p'); barred(0, 1) = 'x'; barred(3, 1) = 'x'
                """);
        holds("whose first supervisor now is that of this one", used(3), """
                supervise(1, 3, true); barred(2, 1) = '-'; supervise(2, 3, true); barred(2, 1) = '-';
                supervise(0, 3, true); barred(2, 1) = 'x'
                """);
        holds("a further one does not count", used(3),
                "supervise(2, 3, true); supervise(2, 0, false); barred(2, 1) = '-'");
        holds("those who are over count", used(3), "award(0); award(1); barred(2, 1) = 'x'");
        holds("without a first supervisor of any none is that of this one", withoutFirst(), "barred(2, 1) = '-'");
    }

    private static Vivahouse withoutFirst() {
        Vivahouse x = Houses.plain();
        for (int i = 0; i < 3; i++) {
            x.candidate('f', false);
            x.upgrade(i, 1, true, 2, true);
        }
        x.pass(6);
        for (int i = 0; i < 2; i++) {
            x.deposit(i, 0);
            x.examiners(i, 1, 4);
            x.viva(i, 'p', 'p');
        }
        return x;
    }

    private static void letters() {
        for (int i = 0; i < 6; i++) {
            for (int j = 0; j < 6; j++) {
                char one = ORDER.charAt(i);
                char other = ORDER.charAt(j);
                char result = i - j > 1 || j - i > 1 ? '?' : ORDER.charAt(Math.max(i, j));
                String rule = i == j ? "alike" : result == '?' ? "split" : "next to each other";
                holds(rule, Houses.examined(), "viva(0, '" + one + "', '" + other + "') = '" + result + "'");
            }
        }
        holds("the last letter is not next to the first one", Houses.after('f', 'p'), "adjudicate(0, 5, 'p') = 'p'");
    }

    private static void split() {
        holds("as long as it is split nothing is decided", Houses.after('p', 'f'), """
                state(0) = 'a'; outcome(0) = '-'; award(0) throws Unsupported; due(0) throws NoSuch;
                sign(0, 1) throws Unsupported; appeal(0, true) throws Unsupported; deposit(0, 0) throws Unsupported;
                viva(0, 'p', 'p') throws Unsupported; pass(60); state(0) = 'a'; adjudicate(0, 5, 'p') = 'p';
                award(0) = 1
                """);
        holds("one who adjudicates is of another house", Houses.after('p', 'f'),
                "adjudicate(0, 2, 'p') throws Unsupported; adjudicate(0, 7, 'p') = 'p'");
        holds("is no examiner of it", Houses.after('p', 'f'),
                "adjudicate(0, 4, 'p') throws Unsupported; adjudicate(0, 1, 'p') throws Unsupported");
        holds("is not barred", Houses.after('p', 'f'), """
                kin(0, 5); tie(6, 0, 'p'); adjudicate(0, 5, 'p') throws Unsupported;
                adjudicate(0, 6, 'p') throws Unsupported; adjudicate(0, 7, 'p') = 'p'
                """);
        holds("an examiner told ahead of the last ones may", Houses.examined(), """
                examiners(0, 2, 5); viva(0, 'p', 'f'); adjudicate(0, 5, 'p') throws Unsupported;
                adjudicate(0, 4, 'p') = 'p'
                """);
        holds("once", Houses.after('p', 'f'), """
                adjudicate(0, 5, 'i') = 'i'; adjudicate(0, 5, 'i') throws Unsupported;
                adjudicate(0, 6, 'p') throws Unsupported
                """);
        holds("not one that is whole", Houses.after('p', 'i'), "adjudicate(0, 5, 'p') throws Unsupported");
        holds("not ahead of the viva", Houses.examined(), "adjudicate(0, 5, 'p') throws Unsupported");
    }

    private static void adjudicated() {
        holds("p", Houses.after('p', 'f'), "adjudicate(0, 5, 'p') = 'p'; award(0) = 1");
        holds("i", Houses.after('p', 'f'), "adjudicate(0, 5, 'i') = 'i'; due(0) = 8; sign(0, 4) = true");
        holds("j", Houses.after('p', 'f'), "adjudicate(0, 5, 'j') = 'j'; due(0) = 9; sign(0, 4) = false");
        holds("r", Houses.after('p', 'f'), "adjudicate(0, 5, 'r') = 'r'; deposit(0, 0) = 2");
        holds("m", Houses.after('p', 'f'), "adjudicate(0, 5, 'm') = 'm'; outcome(0) = 'm'; appeal(0, true) = true");
        holds("f", Houses.after('p', 'f'), "adjudicate(0, 5, 'f') = 'f'; outcome(0) = 'f'; appeal(0, true) = true");
        holds("due behind the month in which the result is told", Houses.after('p', 'f'),
                "pass(10); adjudicate(0, 5, 'i'); due(0) = 18");
        holds("over in the month in which the result is told", Houses.after('p', 'f'),
                "pass(10); adjudicate(0, 5, 'f'); clock(0) = 32; pass(2); clock(0) = 32; appeal(0, true) = true");
        holds("in a pause", Houses.after('p', 'f'), "pause(0, 's'); adjudicate(0, 5, 'p') = 'p'; award(0) = 1");
    }

    private static void open() {
        holds("by p the award is open", Houses.after('p', 'p'), "award(0) = 1; state(0) = 'o'; outcome(0) = 'p'");
        holds("it is open in a pause", Houses.after('p', 'p'), "pause(0, 'w'); award(0) = 1");
        holds("once", Houses.after('p', 'p'), "award(0) = 1; award(0) throws Unsupported");
        holds("not ahead of the viva", Houses.examined(), "award(0) throws Unsupported");
        holds("not by another letter", Houses.after('r', 'r'), "award(0) throws Unsupported");
        holds("not of one who failed", Houses.after('f', 'f'), "award(0) throws Unsupported");
        holds("awards are counted, undone ones too", manyDeposited(3), """
                examiners(0, 1, 4); viva(0, 'p', 'p'); examiners(1, 1, 4); viva(1, 'p', 'p'); examiners(2, 2, 5);
                viva(2, 'p', 'p'); award(2) = 1; award(0) = 2; ground(2, 'q'); panel(2, 3, 6, 7, 3) = true;
                award(1) = 3
                """);
    }

    private static void corrections() {
        holds("minor ones, as many months as the regulation tells", Houses.after('i', 'i'), "due(0) = 8");
        holds("major ones", Houses.after('j', 'j'), "due(0) = 9");
        holds("minor by p and i", Houses.after('p', 'i'), "due(0) = 8");
        holds("major by i and j", Houses.after('i', 'j'), "due(0) = 9");
        holds("by the regulation that holds as the result is told", Houses.examined(), """
                regulation(6, 12, 6, 5, 7, 3, true); viva(0, 'i', 'i'); due(0) = 8; move(0, 1); due(0) = 8
                """);
        holds("by the one it was moved to", Houses.examined(),
                "regulation(6, 12, 6, 5, 7, 3, true); move(0, 1); viva(0, 'j', 'j'); due(0) = 13");
        holds("none are due by p", Houses.after('p', 'p'), "due(0) throws NoSuch; sign(0, 1) throws Unsupported");
        holds("none are due by r", Houses.after('r', 'r'), "due(0) throws NoSuch; sign(0, 1) throws Unsupported");
        holds("none are due by f", Houses.after('f', 'f'), "due(0) throws NoSuch; sign(0, 1) throws Unsupported");
        holds("none are due of one who is over by them", Houses.after('i', 'i'), """
                pass(2); due(0) = 8; pass(1); due(0) throws NoSuch; sign(0, 1) throws Unsupported;
                award(0) throws Unsupported
                """);
    }

    private static void referred() {
        holds("by r the deposit stands no more", Houses.after('r', 'r'), """
                viva(0, 'p', 'p') throws Unsupported; examiners(0, 1, 4) throws Unsupported;
                clear(0, 1) throws Unsupported; state(0) = 'a'; deposit(0, 0) = 2;
                viva(0, 'p', 'p') throws Unsupported; examiners(0, 1, 4) = 1; viva(0, 'p', 'p') = 'p'
                """);
        holds("the second time it is as m", Houses.after('r', 'r'), """
                deposit(0, 0); examiners(0, 1, 4); viva(0, 'r', 'r') = 'm'; outcome(0) = 'm';
                deposit(0, 0) throws Unsupported
                """);
        holds("the second time by j and r too", Houses.after('j', 'r'),
                "deposit(0, 0); examiners(0, 1, 4); viva(0, 'j', 'r') = 'm'");
        holds("the second time by one who adjudicates too", Houses.after('r', 'r'), """
                deposit(0, 0); examiners(0, 1, 4); viva(0, 'p', 'r') = '?'; adjudicate(0, 5, 'r') = 'm';
                outcome(0) = 'm'
                """);
        holds("the first time by one who adjudicates counts", Houses.after('p', 'r'), """
                adjudicate(0, 5, 'r') = 'r'; deposit(0, 0) = 2; examiners(0, 1, 4); viva(0, 'r', 'r') = 'm'
                """);
        holds("each candidate for itself", manyDeposited(2), """
                examiners(0, 1, 4); viva(0, 'r', 'r') = 'r'; examiners(1, 1, 4); viva(1, 'r', 'r') = 'r'
                """);
        holds("a second m is m", Houses.after('r', 'r'), "deposit(0, 0); examiners(0, 1, 4); viva(0, 'm', 'm') = 'm'");
        holds("in a pause, and no new deposit in it", Houses.examined(), """
                pause(0, 's'); viva(0, 'r', 'r') = 'r'; deposit(0, 0) throws Unsupported; resume(0); deposit(0, 0) = 2
                """);
    }

    private static void over() {
        holds("by m the candidacy is over", Houses.after('m', 'm'), "state(0) = 'o'; outcome(0) = 'm'; load(0) = 0");
        holds("by f the candidacy is over", Houses.after('f', 'f'), "state(0) = 'o'; outcome(0) = 'f'; load(0) = 0");
        holds("by m and f it is f", Houses.after('m', 'f'), "outcome(0) = 'f'");
        holds("by r and m it is m", Houses.after('r', 'm'), "outcome(0) = 'm'");
        holds("what is over refuses", Houses.after('f', 'f'), """
                mode(0, 'h') throws Unsupported; pause(0, 's') throws Unsupported; resume(0) throws Unsupported;
                extend(0, 1) throws Unsupported; reaches(0) throws NoSuch; gap(0) throws Unsupported;
                grant(0, 1, 1, 0) throws Unsupported; supervise(0, 2, false) throws Unsupported;
                upgrade(0, 1, true, 2, true) throws Unsupported; deposit(0, 0) throws Unsupported;
                examiners(0, 1, 4) throws Unsupported; viva(0, 'p', 'p') throws Unsupported;
                ground(0, 'q') throws Unsupported
                """);
    }

    private static void signed() {
        holds("minor ones by the one examiner", Houses.after('i', 'i'),
                "sign(0, 1) = true; due(0) throws NoSuch; award(0) = 1");
        holds("minor ones by the other one", Houses.after('i', 'i'),
                "sign(0, 4) = true; sign(0, 1) throws Unsupported; award(0) = 1");
        holds("major ones by both", Houses.after('j', 'j'), """
                sign(0, 1) = false; award(0) throws Unsupported; due(0) = 9; sign(0, 1) throws Unsupported;
                sign(0, 4) = true; due(0) throws NoSuch; award(0) = 1
                """);
        holds("major ones the other way round", Houses.after('j', 'j'),
                "sign(0, 4) = false; sign(0, 4) throws Unsupported; sign(0, 1) = true");
        holds("by no one else", Houses.after('i', 'i'), """
                sign(0, 0) throws Unsupported; sign(0, 2) throws Unsupported; sign(0, 5) throws Unsupported;
                due(0) = 8
                """);
        holds("not by who adjudicated", Houses.after('p', 'f'),
                "adjudicate(0, 5, 'i'); sign(0, 5) throws Unsupported; sign(0, 4) = true");
        holds("not ahead of the viva", Houses.examined(), "sign(0, 1) throws Unsupported");
        holds("not after the award", Houses.after('j', 'j'), """
                sign(0, 1); sign(0, 4); award(0) = 1; sign(0, 1) throws Unsupported; due(0) throws NoSuch;
                award(0) throws Unsupported
                """);
    }

    private static void appeals() {
        holds("one who is over by a viva, with m", Houses.after('m', 'm'), "appeal(0, true) = true; state(0) = 'a'");
        holds("one who is over by a viva, with f", Houses.after('f', 'f'), "appeal(0, true) = true; state(0) = 'a'");
        holds("one who is over by corrections", Houses.after('i', 'i'),
                "pass(3); outcome(0) = 'f'; appeal(0, true) = true; state(0) = 'a'");
        holds("one who is over by a second referral", Houses.after('r', 'r'),
                "deposit(0, 0); examiners(0, 1, 4); viva(0, 'r', 'r') = 'm'; appeal(0, true) = true; state(0) = 'a'");
        holds("not one who is over by the upgrade", Houses.over(), "appeal(0, true) throws Unsupported");
        holds("not one who is over by the upgrade's months", Houses.entered(),
                "pass(6); outcome(0) = 'n'; appeal(0, true) throws Unsupported");
        holds("not one who is over by the limit", Houses.upgraded(),
                "pass(12); outcome(0) = 'l'; appeal(0, true) throws Unsupported");
        holds("not by the limit after a viva", Houses.after('r', 'r'),
                "pass(6); outcome(0) = 'l'; appeal(0, true) throws Unsupported");
        holds("not one with the award", Houses.awarded(), "appeal(0, true) throws Unsupported");
        holds("not one whose degree is undone", Houses.awarded(),
                "ground(0, 'q'); panel(0, 2, 3, 5, 2); outcome(0) = 'x'; appeal(0, true) throws Unsupported");
        holds("not one who is active", Houses.after('r', 'r'), "appeal(0, true) throws Unsupported");
        holds("not one who is paused", Houses.entered(), "pause(0, 's'); appeal(0, true) throws Unsupported");
    }

    private static void appealsInTime() {
        holds("in the month of the viva", Houses.after('f', 'f'), "appeal(0, true) = true");
        holds("2 months ago", Houses.after('f', 'f'), "pass(2); appeal(0, true) = true");
        holds("3 months ago", Houses.after('f', 'f'),
                "pass(3); appeal(0, true) throws Unsupported; appeal(0, false) throws Unsupported");
        holds("2 months behind the month that went by for corrections", Houses.after('j', 'j'),
                "pass(5) = 11; appeal(0, true) = true");
        holds("3 months behind it", Houses.after('j', 'j'), "pass(6) = 12; appeal(0, true) throws Unsupported");
        holds("once in all, upheld", Houses.after('f', 'f'), """
                appeal(0, true) = true; viva(0, 'f', 'f') = 'f'; appeal(0, true) throws Unsupported;
                appeal(0, false) throws Unsupported
                """);
        holds("once in all, not upheld", Houses.after('f', 'f'),
                "appeal(0, false) = false; appeal(0, true) throws Unsupported");
        holds("one that comes too late is none", Houses.after('f', 'f'),
                "pass(60); appeal(0, true) throws Unsupported; outcome(0) = 'f'; state(0) = 'o'");
        holds("each candidate has one", manyDeposited(2), """
                examiners(0, 1, 4); viva(0, 'f', 'f'); examiners(1, 1, 4); viva(1, 'f', 'f');
                appeal(0, false) = false; appeal(1, true) = true; state(0) = 'o'; state(1) = 'a'
                """);
    }

    private static void upheld() {
        holds("the candidate is active", Houses.after('f', 'f'),
                "appeal(0, true); state(0) = 'a'; outcome(0) = '-'; load(0) = 60");
        holds("active, though the viva was in a pause", Houses.examined(), """
                pause(0, 'w'); viva(0, 'f', 'f'); appeal(0, true); state(0) = 'a'; resume(0) throws Unsupported;
                pass(1); clock(0) = 14; pause(0, 's') = 2; isSound() = true
                """);
        holds("the viva never was: it is not counted", Houses.after('f', 'f'),
                "appeal(0, true); examiners(0, 1, 5) = 0");
        holds("the viva never was: nobody is barred by it", manyDeposited(3), """
                examiners(0, 1, 4); examiners(1, 1, 4); viva(0, 'f', 'f'); viva(1, 'p', 'p'); barred(2, 1) = 'x';
                appeal(0, true); barred(2, 1) = '-'; viva(0, 'p', 'p'); barred(2, 1) = 'x'
                """);
        holds("the deposit stands", Houses.after('f', 'f'),
                "appeal(0, true); deposit(0, 0) throws Unsupported; pass(60); state(0) = 'a'");
        holds("its examiners are told", Houses.after('f', 'f'), """
                appeal(0, true); supervise(0, 1, false) throws Unsupported; viva(0, 'i', 'i') = 'i'; sign(0, 4) = true
                """);
        holds("they can be told anew", Houses.after('f', 'f'), """
                appeal(0, true); examiners(0, 2, 5) = 0; viva(0, 'i', 'i'); sign(0, 1) throws Unsupported;
                sign(0, 2) = true
                """);
        holds("no corrections are due", Houses.after('i', 'i'), """
                pass(3); appeal(0, true); due(0) throws NoSuch; sign(0, 1) throws Unsupported; pass(60);
                state(0) = 'a'; viva(0, 'p', 'p') = 'p'; award(0) = 1
                """);
        holds("what was signed is not", Houses.after('j', 'j'), """
                sign(0, 1); pass(4); outcome(0) = 'f'; appeal(0, true); viva(0, 'j', 'j'); sign(0, 4) = false;
                sign(0, 1) = true
                """);
        holds("what was cleared stays so", Houses.upgraded(), """
                pass(6); deposit(0, 50); clear(0, 1); examiners(0, 1, 4); viva(0, 'f', 'f'); appeal(0, true);
                clear(0, 1) throws Unsupported; examiners(0, 1, 4) = 0
                """);
        holds("the months over are not in the clock", Houses.after('f', 'f'),
                "pass(2); appeal(0, true); clock(0) = 12; pass(1); clock(0) = 14; isSound() = true");
        holds("a first referral is not had by it", Houses.after('f', 'f'),
                "appeal(0, true); viva(0, 'r', 'r') = 'r'; deposit(0, 0) = 2");
    }

    private static void notUpheld() {
        holds("else all stays, by a viva", Houses.after('m', 'm'), """
                appeal(0, false) = false; state(0) = 'o'; outcome(0) = 'm'; examiners(0, 1, 4) throws Unsupported;
                viva(0, 'p', 'p') throws Unsupported; load(0) = 0; pass(1); clock(0) = 12; isSound() = true
                """);
        holds("else all stays, by corrections", Houses.after('j', 'j'), """
                pass(4); appeal(0, false) = false; state(0) = 'o'; outcome(0) = 'f'; award(0) throws Unsupported;
                isSound() = true
                """);
    }

    private static void grounds() {
        holds("against one who has the award", Houses.awarded(), "ground(0, 'q') = 1; ground(0, 'z') = 2");
        holds("years later", Houses.awarded(),
                "9 pass(60); pass(54) = 600; ground(0, 'q') = 1; panel(0, 2, 3, 5, 2) = true");
        holds("not as it is open", Houses.after('p', 'p'), "ground(0, 'q') throws Unsupported");
        holds("not against one who failed", Houses.after('f', 'f'), "ground(0, 'q') throws Unsupported");
        holds("not as the degree is undone", Houses.awarded(),
                "ground(0, 'q'); panel(0, 2, 3, 5, 2); ground(0, 'q') throws Unsupported");
        holds("at most 5", Houses.awarded(), """
                ground(0, 'q') = 1; ground(0, 'q') = 2; ground(0, 'z') = 3; ground(0, 'q') = 4; ground(0, 'z') = 5;
                ground(0, 'q') throws Unsupported; reason(0, 0) = 'z'; reason(0, 1) = 'q'; reason(0, 2) = 'z';
                reason(0, 3) = 'q'; reason(0, 4) = 'q'; reason(0, 5) throws NoSuch
                """);
        holds("5 anew as they are gone", Houses.awarded(), """
                5 ground(0, 'z'); panel(0, 2, 3, 5, 1) = false; ground(0, 'q') = 1; reason(0, 0) = 'q';
                reason(0, 1) throws NoSuch; 3 ground(0, 'z'); ground(0, 'z') = 5; ground(0, 'z') throws Unsupported;
                reason(0, 4) = 'q'
                """);
        holds("each candidate has its own", twoAwarded(),
                "ground(0, 'q') = 1; ground(1, 'z') = 1; reason(0, 0) = 'q'; reason(1, 0) = 'z'");
    }

    private static Vivahouse twoAwarded() {
        Vivahouse x = manyDeposited(2);
        for (int i = 0; i < 2; i++) {
            x.examiners(i, 1, 4);
            x.viva(i, 'p', 'p');
            x.award(i);
        }
        return x;
    }

    private static void panels() {
        holds("three unlike members", Houses.awarded(), """
                ground(0, 'q'); panel(0, 2, 2, 3, 2) throws Unsupported; panel(0, 2, 3, 2, 2) throws Unsupported;
                panel(0, 3, 2, 2, 2) throws Unsupported; panel(0, 2, 2, 2, 2) throws Unsupported;
                panel(0, 2, 3, 5, 2) = true
                """);
        holds("of any house", Houses.awarded(), "ground(0, 'q'); panel(0, 5, 6, 7, 2) = true");
        holds("none of its examiners", Houses.awarded(), """
                ground(0, 'q'); panel(0, 1, 2, 3, 2) throws Unsupported; panel(0, 2, 1, 3, 2) throws Unsupported;
                panel(0, 2, 3, 1, 2) throws Unsupported; panel(0, 4, 2, 3, 2) throws Unsupported;
                panel(0, 2, 4, 3, 2) throws Unsupported; panel(0, 2, 3, 4, 2) throws Unsupported
                """);
        holds("none who is barred", Houses.awarded(), """
                ground(0, 'q'); kin(0, 7); panel(0, 0, 2, 3, 2) throws Unsupported;
                panel(0, 2, 0, 3, 2) throws Unsupported; panel(0, 2, 3, 0, 2) throws Unsupported;
                panel(0, 2, 3, 7, 0) throws Unsupported; panel(0, 2, 3, 6, 2) = true
                """);
        holds("not without a ground", Houses.awarded(),
                "panel(0, 2, 3, 5, 2) throws Unsupported; panel(0, 2, 3, 5, 0) throws Unsupported");
        holds("not without an award", Houses.after('p', 'p'), "panel(0, 2, 3, 5, 2) throws Unsupported");
        holds("not as the grounds are gone", Houses.awarded(),
                "ground(0, 'q'); panel(0, 2, 3, 5, 0) = false; panel(0, 2, 3, 5, 3) throws Unsupported");
    }

    private static void undone() {
        holds("by 0 votes not", Houses.awarded(),
                "ground(0, 'q'); panel(0, 2, 3, 5, 0) = false; outcome(0) = 'p'; reason(0, 0) throws NoSuch");
        holds("by 1 vote not", Houses.awarded(),
                "ground(0, 'q'); panel(0, 2, 3, 5, 1) = false; outcome(0) = 'p'; reason(0, 0) throws NoSuch");
        holds("by 2 votes", Houses.awarded(),
                "ground(0, 'q'); panel(0, 2, 3, 5, 2) = true; outcome(0) = 'x'; state(0) = 'o'; reason(0, 0) = 'q'");
        holds("by 3 votes", Houses.awarded(),
                "ground(0, 'q'); panel(0, 2, 3, 5, 3) = true; outcome(0) = 'x'; state(0) = 'o'");
        holds("papers of the candidate are withdrawn", twoAwarded(), """
                9 publish(0); 4 publish(1); ground(0, 'q'); panel(0, 2, 3, 5, 2) = true; papers(0) = 0; papers(1) = 4;
                withdrawn() = 9; ground(1, 'q'); panel(1, 2, 3, 5, 3) = true; papers(1) = 0; withdrawn() = 13
                """);
        holds("else none is", Houses.awarded(),
                "publish(0); ground(0, 'q'); panel(0, 2, 3, 5, 1) = false; papers(0) = 1; withdrawn() = 0");
        holds("without papers none is", Houses.awarded(),
                "ground(0, 'q'); panel(0, 2, 3, 5, 3) = true; withdrawn() = 0");
        holds("papers withdrawn are withdrawn once", Houses.awarded(), """
                publish(0); ground(0, 'q'); panel(0, 2, 3, 5, 2) = true; panel(0, 2, 3, 5, 2) = true; withdrawn() = 1;
                outcome(0) = 'x'
                """);
    }

    private static void sums() {
        holds("7 at first", new Vivahouse(), "checksum() = 7");
        holds("7 without candidates", Houses.plain(), "checksum() = 7");
        holds("one who is active", Houses.entered(), "checksum() = 208679");
        holds("no share without candidates", Houses.plain(),
                "awardShare(0, 600) throws Arithmetic; awardShare(MIN, MAX) throws Arithmetic");
        holds("a share from a month to the same one", Houses.awarded(), """
                awardShare(0, 0) = 1.0; awardShare(1, 600) throws Arithmetic; awardShare(-5, -1) throws Arithmetic;
                awardShare(0, -1) throws Arithmetic
                """);
        holds("a share of none", Houses.entered(),
                "awardShare(0, 0) = 0.0; awardShare(MIN, 0) = 0.0; awardShare(0, MAX) = 0.0");
        holds("the first and the last month are within", Houses.plain(), """
                pass(5); candidate('f', false); awardShare(5, 9) = 0.0; awardShare(1, 5) = 0.0;
                awardShare(6, 9) throws Arithmetic; awardShare(1, 4) throws Arithmetic
                """);
        holds("no mean of none", Houses.entered(), "meanClock() throws Arithmetic");
        holds("a mean of one", Houses.awarded(), """
                meanClock() = 12.0; ground(0, 'q'); meanClock() = 12.0; panel(0, 2, 3, 5, 2);
                meanClock() throws Arithmetic
                """);
        holds("sound at first", new Vivahouse(), "isSound() = true");
    }
}
