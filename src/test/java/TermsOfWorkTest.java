/** The terms on grants, supervisors and hurdles: each sentence, on both sides of its bounds. */
public final class TermsOfWorkTest {
    private static final Check CHECK = new Check("TermsOfWorkTest");

    private TermsOfWorkTest() {
    }

    public static void main(String[] args) {
        grants();
        gaps();
        gapsThatAreNone();
        reaches();
        supervisors();
        kinAmongSupervisors();
        loads();
        knownForIt();
        ethics();
        upgrades();
        secondUpgrade();
        deposits();
        likeness();
        papers();
        CHECK.end();
    }

    private static void holds(String sentence, Vivahouse house, String script) {
        Script.run(CHECK, sentence, house, script);
    }

    private static void grants() {
        holds("at most 20 are numbered from 0", Houses.entered(), """
                grant(0, 1, 1, 0) = 0; 18 grant(0, 1, 1, 0); grant(0, 1, 7, 0) = 19;
                grant(0, 1, 1, 0) throws IllegalState; left(19) = 7; left(20) throws Index; pass(1); money(0) = 20;
                left(19) = 6
                """);
        holds("those that are spent are counted", Houses.entered(),
                "20 grant(0, 1, 1, 0); pass(1); left(0) = 0; grant(0, 1, 1, 5) throws IllegalState");
        holds("those of all candidates together", Houses.entered(), """
                candidate('f', false); 10 grant(0, 1, 1, 0); 10 grant(1, 1, 1, 0);
                grant(0, 1, 1, 0) throws IllegalState; grant(1, 1, 1, 0) throws IllegalState
                """);
        holds("an amount may be 1", Houses.entered(), "grant(0, 1, 1, 0) = 0; pass(1); money(0) = 1");
        holds("an amount may be 9999", Houses.entered(), "grant(0, 9999, 1, 0) = 0; pass(1); money(0) = 9999");
        holds("the most money of all", Houses.upgraded(), """
                pass(11); deposit(0, 0); 20 grant(0, 9999, 60, 0); pass(60); money(0) = 11998800; left(19) = 0;
                pass(1); money(0) = 11998800; isSound() = true
                """);
        holds("months may be 1", Houses.entered(), "grant(0, 2, 1, 0); pass(2); money(0) = 2; left(0) = 0");
        holds("months may be 60", Houses.deposited(), """
                grant(0, 2, 60, 0); pass(59); money(0) = 118; left(0) = 1; pass(1); money(0) = 120; left(0) = 0;
                pass(1); money(0) = 120
                """);
        holds("its month may be 0", Houses.entered(), "grant(0, 2, 1, 0); pass(1); money(0) = 2");
        holds("its month may be 599, the last one that goes by", Houses.deposited(),
                "grant(0, 2, 1, 599); 9 pass(60); pass(53) = 599; money(0) = 0; pass(1) = 600; money(0) = 2");
        holds("its month may be 600, which does not go by", Houses.deposited(),
                "grant(0, 2, 1, 600); 9 pass(60); pass(54) = 600; money(0) = 0; left(0) = 1");
        holds("a month that went by already", Houses.entered(),
                "pass(4); grant(0, 2, 2, 1); pass(1); money(0) = 2; left(0) = 1");
        holds("each is of a candidate", Houses.entered(),
                "candidate('f', false); grant(1, 2, 2, 0); pass(1); money(0) = 0; money(1) = 2");
        holds("a paused one gets it told", Houses.entered(),
                "pause(0, 'w'); grant(0, 2, 2, 0) = 0; pass(1); money(0) = 0");
    }

    private static void gaps() {
        holds("without grants all months until the limit", Houses.entered(), "gap(0) = 12");
        holds("twice of them in half time", Houses.entered(), "mode(0, 'h'); gap(0) = 24");
        holds("an odd half is a month", Houses.entered(),
                "mode(0, 'h'); pass(1); mode(0, 'f'); gap(0) = 12; reaches(0) = 13");
        holds("the first month of a grant is paid", Houses.entered(), "grant(0, 1, 1, 0); gap(0) = 11");
        holds("the last month ahead of the limit is paid", Houses.entered(), "grant(0, 1, 1, 11); gap(0) = 11");
        holds("the month of the limit does not count", Houses.entered(), "grant(0, 1, 1, 12); gap(0) = 12");
        holds("a grant beyond the limit does not count", Houses.entered(), "grant(0, 1, 60, 600); gap(0) = 12");
        holds("one over all of it leaves none", Houses.entered(), "grant(0, 1, 12, 0); gap(0) = 0");
        holds("one a month too short leaves one", Houses.entered(), "grant(0, 1, 11, 0); gap(0) = 1");
        holds("one a month too late leaves one", Houses.entered(), "grant(0, 1, 60, 1); gap(0) = 1");
        holds("months paid twice count once", Houses.entered(), "grant(0, 1, 4, 2); grant(0, 1, 4, 4); gap(0) = 6");
        holds("two that meet", Houses.entered(), "grant(0, 1, 6, 0); grant(0, 1, 6, 6); gap(0) = 0");
        holds("from now on", Houses.entered(),
                "grant(0, 1, 4, 0); gap(0) = 8; pass(3); gap(0) = 8; pass(1); gap(0) = 8; pass(1); gap(0) = 7");
        holds("one that was told late pays from now on", Houses.entered(), "pass(3); grant(0, 1, 4, 1); gap(0) = 5");
        holds("no other candidate's grant", Houses.entered(),
                "candidate('f', false); grant(1, 1, 12, 0); gap(0) = 12; gap(1) = 0");
        holds("until the limit, whatever would end it ahead", Houses.upgraded(),
                "gap(0) = 12; regulation(6, 20, 2, 2, 3, 3, true); move(0, 1); gap(0) = 20");
        holds("extensions move the limit", Houses.entered(),
                "grant(0, 1, 12, 0); gap(0) = 0; extend(0, 3); gap(0) = 3");
        holds("in a leave that counts no grant would pay", Houses.entered(),
                "grant(0, 1, 12, 0); pause(0, 'l'); gap(0) = 12");
        holds("beyond month 600", Houses.plain(),
                "10 pass(60); candidate('h', false); grant(0, 1, 5, 600); gap(0) = 19");
    }

    private static void gapsThatAreNone() {
        holds("0 if the clock stands, sick", Houses.entered(), "pause(0, 's'); gap(0) = 0");
        holds("0 if the clock stands, at work", Houses.entered(), "pause(0, 'w'); gap(0) = 0");
        holds("0 if the clock stands, in a leave that does not count", Houses.entered(), """
                regulation(6, 12, 6, 2, 3, 3, false); pause(0, 'l'); gap(0) = 12; move(0, 1); gap(0) = 0
                """);
        holds("0 if the limit is there", Houses.deposited(),
                "pass(5); gap(0) = 1; pass(1); gap(0) = 0; pass(1); gap(0) = 0");
        holds("not if it was extended", Houses.deposited(), "pass(6); gap(0) = 0; extend(0, 1); gap(0) = 1");
        holds("one who is over has none", Houses.over(), "gap(0) throws Unsupported");
        holds("nor one with the award", Houses.awarded(), "gap(0) throws Unsupported; reaches(0) throws NoSuch");
    }

    private static void reaches() {
        holds("in full time", Houses.entered(), "reaches(0) = 12; pass(5); reaches(0) = 12");
        holds("in half time", Houses.entered(), "mode(0, 'h'); reaches(0) = 24; pass(5); reaches(0) = 24");
        holds("the limit is not there at an odd half below", Houses.deposited(),
                "mode(0, 'h'); pass(11) = 17; clock(0) = 23; reaches(0) = 18; mode(0, 'f'); reaches(0) = 18");
        holds("the month of now if the limit is there", Houses.deposited(),
                "pass(6) = 12; reaches(0) = 12; pass(9); reaches(0) = 21");
        holds("or the clock is above it", Houses.deposited(),
                "mode(0, 'h'); pass(11); mode(0, 'f'); pass(1) = 18; clock(0) = 25; reaches(0) = 18");
        holds("though the clock stands there", Houses.deposited(),
                "pass(6); pause(0, 's'); reaches(0) = 12; pass(3); reaches(0) = 15");
        holds("not if it stands below", Houses.deposited(), "pass(5); pause(0, 's'); reaches(0) throws NoSuch");
        holds("as if active in a leave that counts", Houses.entered(),
                "pause(0, 'l'); reaches(0) = 12; mode(0, 'h'); reaches(0) = 24");
        holds("not of one who is over at the limit", Houses.upgraded(),
                "pass(12); outcome(0) = 'l'; reaches(0) throws NoSuch");
    }

    private static void supervisors() {
        holds("a first one and at most 2 further ones", Houses.entered(), """
                supervise(0, 0, true) = 60; supervise(0, 1, false) = 20; supervise(0, 2, false) = 20;
                supervise(0, 3, false) throws Unsupported; supervisor(0, 2) = 2; supervisor(0, 3) throws NoSuch;
                supervise(0, 3, true) = 60; supervise(0, 0, false) throws Unsupported; supervisor(0, 0) = 3
                """);
        holds("at most 2 further ones without a first one", Houses.entered(), """
                supervise(0, 0, false) = 20; supervise(0, 1, false) = 20; supervise(0, 2, false) throws Unsupported;
                supervisor(0, 0) throws NoSuch; supervisor(0, 1) = 0; supervisor(0, 2) = 1;
                supervise(0, 2, true) = 60; supervisor(0, 0) = 2
                """);
        holds("room again by a release", Houses.supervised(), """
                supervise(0, 1, false); supervise(0, 2, false); release(0, 1) = 1; supervise(0, 3, false) = 20;
                supervisor(0, 1) = 2; supervisor(0, 2) = 3; supervise(0, 1, false) throws Unsupported
                """);
        holds("no release of none", Houses.supervised(),
                "release(0, 1) throws Unsupported; release(0, 0) throws Unsupported");
        holds("the last release leaves 0", Houses.supervised(), """
                supervise(0, 1, false); release(0, 1) = 0; supervisor(0, 1) throws NoSuch;
                release(0, 1) throws Unsupported; supervisor(0, 0) = 0
                """);
        holds("members of this house", Houses.entered(), """
                supervise(0, 3, true) = 60; supervise(0, 4, true) throws Unsupported;
                supervise(0, 4, false) throws Unsupported
                """);
        holds("a new first one takes the place of the one there", Houses.supervised(), """
                supervise(0, 1, true) = 60; supervisor(0, 0) = 1; supervisor(0, 1) throws NoSuch; load(0) = 0;
                release(0, 0) throws Unsupported
                """);
        holds("who supervises this one is not given again", Houses.supervised(), """
                supervise(0, 1, false); supervise(0, 0, true) throws Unsupported;
                supervise(0, 0, false) throws Unsupported; supervise(0, 1, true) throws Unsupported;
                supervise(0, 1, false) throws Unsupported
                """);
        holds("an examiner of a deposit that stands is not given", Houses.deposited(), """
                examiners(0, 1, 4); supervise(0, 1, false) throws Unsupported;
                supervise(0, 1, true) throws Unsupported; supervise(0, 2, false) = 20
                """);
        holds("nor as the viva was held", Houses.after('p', 'p'),
                "supervise(0, 1, false) throws Unsupported; supervise(0, 2, true) = 60");
        holds("it is as the deposit is referred", Houses.after('r', 'r'), """
                supervise(0, 1, false) = 20; deposit(0, 0); examiners(0, 1, 4) throws Unsupported;
                examiners(0, 2, 4) = 0; supervise(0, 2, false) throws Unsupported; supervise(0, 3, false) = 20
                """);
        holds("one who is over gets none", Houses.over(),
                "supervise(0, 1, true) throws Unsupported; release(0, 0) throws Unsupported");
    }

    private static void kinAmongSupervisors() {
        holds("kin of the first one who stays", Houses.supervised(),
                "tie(1, 0, 'k'); supervise(0, 1, false) throws Unsupported");
        holds("kin of a further one who stays", Houses.supervised(), """
                supervise(0, 1, false); supervise(0, 2, false); tie(3, 2, 'k');
                supervise(0, 3, true) throws Unsupported; release(0, 2); supervise(0, 3, true) = 60
                """);
        holds("kin of the first one who goes", Houses.supervised(), "tie(1, 0, 'k'); supervise(0, 1, true) = 60");
        holds("kin by 0 years and after years", Houses.plain(), """
                regulation(6, 12, 6, 2, 3, 0, true); tie(0, 1, 'k'); 10 pass(60); candidate('f', false);
                supervise(0, 0, true); supervise(0, 1, false) throws Unsupported
                """);
        holds("a paper and money do not matter", Houses.supervised(),
                "tie(1, 0, 'p'); tie(1, 0, 'm'); supervise(0, 1, false) = 20");
        holds("no new one: who is there may turn out to be kin", Houses.supervised(),
                "supervise(0, 1, false); tie(0, 1, 'k') = 1; kin(0, 1) = 1; supervisor(0, 1) = 1; isSound() = true");
        holds("kin of the candidate", Houses.entered(), """
                kin(0, 0); supervise(0, 0, true) throws Unsupported; supervise(0, 0, false) throws Unsupported;
                candidate('f', false); supervise(1, 0, true) = 60
                """);
    }

    private static void loads() {
        holds("60, 20, and half of that", Houses.entered(), """
                candidate('f', false); candidate('h', false); candidate('h', false); supervise(0, 0, true) = 60;
                supervise(1, 0, false) = 80; supervise(2, 0, true) = 110; supervise(3, 0, false) = 120; load(0) = 120
                """);
        holds("a first one up to the limit", Houses.entered(), "member(0, 60); supervise(0, 8, true) = 60");
        holds("not above it", Houses.entered(),
                "member(0, 59); supervise(0, 8, true) throws Unsupported; supervise(0, 8, false) = 20");
        holds("a further one up to the limit", Houses.entered(), "member(0, 20); supervise(0, 8, false) = 20");
        holds("a further one not above it", Houses.entered(),
                "member(0, 19); supervise(0, 8, false) throws Unsupported");
        holds("half time up to the limit", Houses.entered(), """
                mode(0, 'h'); member(0, 30); member(0, 10); supervise(0, 8, true) = 30; supervise(0, 9, false) = 10
                """);
        holds("half time not above it", Houses.entered(), """
                mode(0, 'h'); member(0, 29); member(0, 9); supervise(0, 8, true) throws Unsupported;
                supervise(0, 9, false) throws Unsupported
                """);
        holds("it is looked at then alone", Houses.entered(), """
                mode(0, 'h'); member(0, 30); supervise(0, 8, true) = 30; mode(0, 'f') = 'h'; load(8) = 60; pass(1);
                supervisor(0, 0) = 8; candidate('h', false); supervise(1, 8, false) throws Unsupported
                """);
        holds("the greatest load, by twelve of them", greatestLoad(), "load(0) = 720");
        holds("not who is over", Houses.supervised(), """
                candidate('f', false); supervise(1, 0, true) = 120; upgrade(1, 1, true, 2, true); pass(6);
                outcome(0) = 'n'; load(0) = 60
                """);
        holds("who is paused", Houses.supervised(), "pause(0, 'w'); load(0) = 60");
        holds("of one without candidates", Houses.plain(), "load(0) = 0; load(7) = 0; load(8) throws Index");
    }

    private static Vivahouse greatestLoad() {
        Vivahouse x = Houses.plain();
        for (int i = 0; i < 12; i++) {
            x.candidate('h', false);
            x.supervise(i, 0, true);
        }
        for (int i = 0; i < 12; i++) {
            x.mode(i, 'f');
        }
        return x;
    }

    private static void knownForIt() {
        holds("a first one who went", Houses.supervised(),
                "supervise(0, 1, true); barred(0, 0) = 's'; pass(5); barred(0, 0) = 's'");
        holds("a further one who was released", Houses.supervised(),
                "supervise(0, 1, false); release(0, 1); barred(0, 1) = 's'");
        holds("of this candidate alone", Houses.supervised(), "candidate('f', false); barred(1, 0) = '-'");
        holds("one who is known can be given anew", Houses.supervised(),
                "supervise(0, 1, true); supervise(0, 0, true) = 60");
    }

    private static void ethics() {
        holds("approved if the candidate needs them", Houses.plain(), """
                candidate('f', true); candidate('f', false); ethics(1) throws Unsupported; ethics(0) = 1;
                ethics(0) throws Unsupported
                """);
        holds("ahead of the upgrade", Houses.plain(), """
                candidate('f', true); upgrade(0, 0, true, 1, true) throws Unsupported;
                upgrade(0, 0, false, 1, false) throws Unsupported; ethics(0) = 1; upgrade(0, 0, true, 1, true) = 'p'
                """);
        holds("of all twelve", Houses.plain(), """
                12 candidate('f', true); ethics(0) = 1; ethics(1) = 2; ethics(2) = 3; ethics(3) = 4; ethics(4) = 5;
                ethics(5) = 6; ethics(6) = 7; ethics(7) = 8; ethics(8) = 9; ethics(9) = 10; ethics(10) = 11;
                ethics(11) = 12
                """);
        holds("those who are over are counted, but get none", Houses.plain(), """
                candidate('f', true); ethics(0) = 1; candidate('f', true); pass(6); candidate('f', true);
                ethics(2) = 2; ethics(1) throws Unsupported
                """);
    }

    private static void upgrades() {
        holds("two yes", Houses.supervised(),
                "upgrade(0, 1, true, 2, true) = 'p'; upgrade(0, 1, true, 2, true) throws Unsupported");
        holds("yes and no", Houses.supervised(), "upgrade(0, 1, true, 2, false) = 'r'; state(0) = 'a'");
        holds("no and yes", Houses.supervised(), "upgrade(0, 1, false, 2, true) = 'r'; outcome(0) = '-'");
        holds("no and no is one that is not passed", Houses.supervised(), """
                upgrade(0, 1, false, 2, false) = 'r'; state(0) = 'a'; upgrade(0, 1, true, 2, true) = 'p'
                """);
        holds("two members", Houses.supervised(), "upgrade(0, 1, true, 1, true) throws Unsupported");
        holds("of this house", Houses.supervised(), """
                upgrade(0, 4, true, 1, true) throws Unsupported; upgrade(0, 1, true, 4, true) throws Unsupported;
                upgrade(0, 4, false, 5, false) throws Unsupported
                """);
        holds("who do not supervise the candidate", Houses.supervised(), """
                supervise(0, 3, false); upgrade(0, 0, true, 1, true) throws Unsupported;
                upgrade(0, 1, true, 0, true) throws Unsupported; upgrade(0, 3, true, 1, true) throws Unsupported;
                upgrade(0, 1, true, 3, true) throws Unsupported; upgrade(0, 2, true, 1, true) = 'p'
                """);
        holds("who did supervise, or is kin, is not ruled out", Houses.supervised(), """
                supervise(0, 1, true); kin(0, 2); tie(2, 1, 'k'); upgrade(0, 0, true, 2, true) = 'p'
                """);
        holds("supervising another one is not ruled out", Houses.supervised(),
                "candidate('f', false); supervise(1, 1, true); upgrade(0, 1, true, 2, true) = 'p'");
        holds("without a supervisor", Houses.entered(), "upgrade(0, 0, true, 1, true) = 'p'");
        holds("not of a paused one", Houses.supervised(), """
                pause(0, 's'); upgrade(0, 1, true, 2, true) throws Unsupported; resume(0);
                upgrade(0, 1, true, 2, true) = 'p'
                """);
    }

    private static void secondUpgrade() {
        holds("the second one that is not passed", Houses.supervised(), """
                upgrade(0, 1, true, 2, false) = 'r'; upgrade(0, 1, false, 2, true) = 'm'; state(0) = 'o';
                outcome(0) = 'm'; upgrade(0, 1, true, 2, true) throws Unsupported; load(0) = 0
                """);
        holds("it is not over by a viva", Houses.over(),
                "appeal(0, true) throws Unsupported; appeal(0, false) throws Unsupported");
        holds("one that throws is not tried", Houses.supervised(), """
                upgrade(0, 1, false, 1, false) throws Unsupported; upgrade(0, 4, false, 1, false) throws Unsupported;
                upgrade(0, 1, false, 2, false) = 'r'; upgrade(0, 1, false, 0, false) throws Unsupported;
                upgrade(0, 1, true, 2, true) = 'p'
                """);
        holds("each candidate has tries of its own", Houses.entered(), """
                candidate('f', false); upgrade(0, 0, false, 1, false) = 'r'; upgrade(1, 0, false, 1, false) = 'r';
                upgrade(1, 0, false, 1, false) = 'm'; state(0) = 'a'
                """);
    }

    private static void deposits() {
        holds("needs the upgrade", Houses.plain(), """
                regulation(6, 12, 60, 2, 3, 3, true); candidate('f', false); pass(6);
                deposit(0, 0) throws Unsupported; upgrade(0, 0, true, 1, true); deposit(0, 0) = 1
                """);
        holds("needs the least months, a half below", Houses.upgraded(),
                "mode(0, 'h'); pass(11); clock(0) = 11; deposit(0, 0) throws Unsupported; pass(1); deposit(0, 0) = 1");
        holds("the least months by the regulation of now", Houses.upgraded(), """
                regulation(8, 12, 6, 2, 3, 3, true); pass(6); move(0, 1); deposit(0, 0) throws Unsupported; pass(2);
                deposit(0, 0) = 1
                """);
        holds("not of a paused one", Houses.upgraded(),
                "pass(6); pause(0, 'l'); deposit(0, 0) throws Unsupported; resume(0); deposit(0, 0) = 1");
        holds("not of one who is over", Houses.upgraded(), "pass(12); deposit(0, 0) throws Unsupported");
        holds("none as long as one stands", Houses.deposited(), """
                deposit(0, 0) throws Unsupported; examiners(0, 1, 4); deposit(0, 0) throws Unsupported;
                viva(0, 'p', 'f'); deposit(0, 0) throws Unsupported; adjudicate(0, 5, 'r') = 'r'; deposit(0, 0) = 2;
                deposit(0, 0) throws Unsupported
                """);
        holds("it stands as corrections are due and signed", Houses.after('i', 'i'),
                "deposit(0, 0) throws Unsupported; sign(0, 1); deposit(0, 0) throws Unsupported");
        holds("it stands after a second referral, that is as m", Houses.after('r', 'r'), """
                deposit(0, 0) = 2; examiners(0, 1, 4); viva(0, 'r', 'r') = 'm'; appeal(0, true) = true;
                deposit(0, 0) throws Unsupported; viva(0, 'r', 'r') = 'm'; appeal(0, true) throws Unsupported
                """);
    }

    private static void likeness() {
        holds("a likeness may be 0", Houses.upgraded(),
                "pass(6); deposit(0, 0) = 1; clear(0, 1) throws Unsupported; examiners(0, 1, 4) = 0");
        holds("a likeness of 20 need not be cleared", Houses.upgraded(),
                "pass(6); deposit(0, 20) = 1; clear(0, 1) throws Unsupported; examiners(0, 1, 4) = 0");
        holds("a likeness of 21 must be", Houses.upgraded(), """
                pass(6); deposit(0, 21) = 1; examiners(0, 1, 4) throws Unsupported;
                viva(0, 'p', 'p') throws Unsupported; clear(0, 1) = 21; examiners(0, 1, 4) = 0
                """);
        holds("a likeness may be 100", Houses.upgraded(), """
                pass(6); deposit(0, 100) = 1; examiners(0, 1, 4) throws Unsupported; clear(0, 4) = 100;
                clear(0, 4) throws Unsupported; clear(0, 1) throws Unsupported; examiners(0, 1, 4) = 0
                """);
        holds("by a member who does not supervise the candidate", Houses.upgraded(), """
                supervise(0, 3, false); pass(6); deposit(0, 50); clear(0, 0) throws Unsupported;
                clear(0, 3) throws Unsupported; supervise(0, 1, true); clear(0, 1) throws Unsupported;
                clear(0, 0) = 50
                """);
        holds("a new deposit is cleared anew", Houses.upgraded(), """
                pass(6); deposit(0, 50); clear(0, 1); examiners(0, 1, 4); viva(0, 'r', 'r');
                clear(0, 1) throws Unsupported; deposit(0, 60) = 2; examiners(0, 1, 4) throws Unsupported;
                clear(0, 1) = 60; examiners(0, 1, 4) = 1
                """);
        holds("none stands", Houses.upgraded(), "pass(6); clear(0, 1) throws Unsupported");
        holds("in a pause", Houses.upgraded(), "pass(6); deposit(0, 50); pause(0, 'w'); clear(0, 1) = 50");
    }

    private static void papers() {
        holds("up to 9", Houses.entered(),
                "8 publish(0); publish(0) = 9; publish(0) throws Unsupported; papers(0) = 9");
        holds("of who is over", Houses.over(), "8 publish(0); publish(0) = 9; publish(0) throws Unsupported");
        holds("of who has the award", Houses.awarded(), "publish(0) = 1; papers(0) = 1; withdrawn() = 0");
        holds("not as the degree is undone", Houses.awarded(), """
                ground(0, 'q'); panel(0, 2, 3, 5, 2) = true; publish(0) throws Unsupported; papers(0) = 0;
                withdrawn() = 0
                """);
        holds("none at first", Houses.entered(), "papers(0) = 0; withdrawn() = 0");
    }
}
