/** The terms on months, regulations, members, ties, candidates and clocks: each sentence, both sides of its bounds. */
public final class TermsOfTimeTest {
    private static final Check CHECK = new Check("TermsOfTimeTest");

    private TermsOfTimeTest() {
    }

    public static void main(String[] args) {
        months();
        toldInAMonth();
        regulations();
        boundsOfRegulations();
        movedOnce();
        members();
        ties();
        years();
        candidates();
        clocks();
        limits();
        monthsGoBy();
        endsByUpgrade();
        endsByLimit();
        endsByCorrections();
        CHECK.end();
    }

    private static void holds(String sentence, Vivahouse house, String script) {
        Script.run(CHECK, sentence, house, script);
    }

    private static void months() {
        holds("the month is 0 at first", new Vivahouse(), "month() = 0");
        holds("at most 600, one by one", new Vivahouse(),
                "9 pass(60); pass(59) = 599; pass(1) = 600; pass(1) throws IllegalState; month() = 600");
        holds("at most 600, by 60", new Vivahouse(),
                "9 pass(60); pass(60) = 600; pass(60) throws IllegalState; month() = 600");
        holds("no month goes by if not all of them can", new Vivahouse(),
                "9 pass(60); pass(59) = 599; pass(2) throws IllegalState; month() = 599");
        holds("in the last month all else goes on", Houses.plain(), """
                10 pass(60); candidate('f', false) = 0; supervise(0, 0, true) = 60; tie(0, 4, 'p') = 1;
                barred(0, 4) = 't'; grant(0, 1, 1, 600) = 0; reaches(0) = 612; gap(0) = 11; pause(0, 's') = 1;
                resume(0) = 0; upgrade(0, 1, true, 2, true) = 'p'; awardShare(600, 600) = 0.0; isSound() = true
                """);
        holds("a viva in the last month", Houses.upgraded(), """
                pass(6); deposit(0, 0) = 1; 9 pass(60); pass(54) = 600; examiners(0, 1, 4) = 0;
                viva(0, 'i', 'i') = 'i'; due(0) = 602; sign(0, 1) = true; award(0) = 1; clock(0) = 1200;
                isSound() = true
                """);
    }

    private static void toldInAMonth() {
        holds("a mode holds from its month", Houses.entered(), "pass(1); mode(0, 'h'); pass(1); clock(0) = 3");
        holds("a pause holds from its month", Houses.entered(), "pass(1); pause(0, 's'); pass(1); clock(0) = 2");
        holds("an end of a pause holds from its month", Houses.entered(),
                "pause(0, 's'); pass(1); resume(0) = 1; pass(1); clock(0) = 2");
        holds("a move holds from its month", Houses.entered(), """
                regulation(6, 12, 6, 2, 3, 3, false); pause(0, 'l'); pass(1); clock(0) = 2; move(0, 1) = 0; pass(1);
                clock(0) = 2
                """);
        holds("an extension holds from its month", Houses.upgraded(),
                "pass(11); extend(0, 1) = 26; pass(1); outcome(0) = '-'; pass(1); outcome(0) = 'l'");
        holds("a grant pays from its month", Houses.entered(), "pass(2); grant(0, 9, 1, 2); pass(1); money(0) = 9");
        holds("a tie bars from its month", Houses.supervised(), "pass(3); tie(0, 4, 'p'); barred(0, 4) = 't'");
        holds("kin are barred from its month", Houses.entered(), "pass(3); kin(0, 4); barred(0, 4) = 'k'");
        holds("a deposit keeps the limit from its month", Houses.upgraded(),
                "pass(11); deposit(0, 0); pass(1); outcome(0) = '-'");
        holds("an upgrade keeps the clock from its month", Houses.supervised(),
                "pass(5); upgrade(0, 1, true, 2, true); pass(1); outcome(0) = '-'");
        holds("what is told and taken back in a month is as never told", Houses.entered(), """
                mode(0, 'h'); mode(0, 'f'); pause(0, 'w'); resume(0) = 0; pass(1); clock(0) = 2; isSound() = true
                """);
    }

    private static void regulations() {
        holds("at most 5 are numbered from 0", new Vivahouse(), """
                regulation(6, 12, 6, 2, 3, 3, true) = 0; regulation(6, 13, 6, 2, 3, 3, true) = 1;
                regulation(6, 14, 6, 2, 3, 3, true) = 2; regulation(6, 15, 6, 2, 3, 3, true) = 3;
                regulation(6, 16, 6, 2, 3, 3, true) = 4; regulation(6, 17, 6, 2, 3, 3, true) throws IllegalState;
                candidate('f', false) = 0; limit(0) = 32; move(0, 5) throws Index; move(0, 4) throws Unsupported;
                move(0, 0) = 4; limit(0) = 24
                """);
        holds("no regulation is number 0 of none", new Vivahouse(), "candidate('f', false) throws Unsupported");
        holds("the newest one holds for who enters then", new Vivahouse(), """
                regulation(6, 12, 6, 2, 3, 3, true); candidate('f', false); regulation(6, 20, 6, 2, 3, 3, true);
                candidate('f', false); limit(0) = 24; limit(1) = 40; move(0, 0) throws Unsupported; move(1, 0) = 1
                """);
    }

    private static void boundsOfRegulations() {
        holds("the least months may be 6", Houses.upgraded(),
                "pass(5); deposit(0, 0) throws Unsupported; pass(1); deposit(0, 0) = 1");
        holds("the least and the most months may be 120", longest(), """
                2 pass(59); pass(1) = 119; clock(0) = 238; deposit(0, 0) throws Unsupported; extend(0, 1) = 242;
                pass(1); deposit(0, 0) = 1
                """);
        holds("the most months may be 120", longest(),
                "2 pass(59); pass(1); outcome(0) = '-'; pass(1); outcome(0) = 'l'");
        holds("the most months may be 6", new Vivahouse(), """
                regulation(6, 6, 60, 1, 1, 0, true); member(0, 0); member(0, 0); candidate('f', false); limit(0) = 12;
                upgrade(0, 0, true, 1, true) = 'p'; pass(5); outcome(0) = '-'; pass(1); outcome(0) = 'l'
                """);
        holds("the months of the upgrade may be 1", new Vivahouse(), """
                regulation(6, 6, 1, 1, 1, 0, true); candidate('f', false); candidate('h', false); pass(1);
                outcome(0) = 'n'; outcome(1) = '-'; pass(1); outcome(1) = 'n'
                """);
        holds("the months of the upgrade may be 60", new Vivahouse(), """
                regulation(6, 120, 60, 1, 1, 0, true); candidate('f', false); pass(59) = 59; outcome(0) = '-';
                pass(1); outcome(0) = 'n'; clock(0) = 120
                """);
        holds("the months for corrections may be 1", Houses.examined(), """
                regulation(6, 12, 6, 1, 1, 3, true); move(0, 1); viva(0, 'i', 'i'); due(0) = 7; pass(1);
                outcome(0) = '-'; pass(1); outcome(0) = 'f'
                """);
        holds("the months for minor ones may be 24", Houses.examined(), """
                regulation(6, 12, 6, 24, 1, 3, true); move(0, 1); viva(0, 'i', 'i'); due(0) = 30; pass(24);
                outcome(0) = '-'; pass(1); outcome(0) = 'f'
                """);
        holds("the months for major ones may be 24", Houses.examined(), """
                regulation(6, 12, 6, 1, 24, 3, true); move(0, 1); viva(0, 'j', 'j'); due(0) = 30; pass(24);
                outcome(0) = '-'; pass(1); outcome(0) = 'f'
                """);
        holds("leave counts by one regulation, not by another one", new Vivahouse(), """
                regulation(6, 12, 6, 2, 3, 3, true); candidate('f', false); regulation(6, 12, 6, 2, 3, 3, false);
                candidate('f', false); pause(0, 'l'); pause(1, 'l'); pass(2); clock(0) = 4; clock(1) = 0
                """);
    }

    /** The greatest regulation; candidate 0 is upgraded. */
    private static Vivahouse longest() {
        Vivahouse x = new Vivahouse();
        x.regulation(120, 120, 60, 24, 24, 10, true);
        x.member(0, 400);
        x.member(0, 400);
        x.candidate('f', false);
        x.upgrade(0, 0, true, 1, true);
        return x;
    }

    private static void movedOnce() {
        holds("a candidate can be moved to another one once", Houses.entered(), """
                regulation(6, 20, 6, 2, 3, 3, true); regulation(6, 30, 6, 2, 3, 3, true);
                move(0, 0) throws Unsupported; move(0, 2) = 0; limit(0) = 60; move(0, 1) throws Unsupported;
                move(0, 0) throws Unsupported; move(0, 2) throws Unsupported; limit(0) = 60
                """);
        holds("each candidate for itself", Houses.entered(), """
                candidate('f', false); regulation(6, 20, 6, 2, 3, 3, true); move(0, 1) = 0; move(1, 1) = 0;
                move(1, 0) throws Unsupported
                """);
        holds("a paused one can be moved", Houses.entered(),
                "regulation(6, 20, 6, 2, 3, 3, true); pause(0, 's'); move(0, 1) = 0; limit(0) = 40");
    }

    private static void members() {
        holds("at most 16 are numbered from 0", new Vivahouse(), """
                member(0, 400) = 0; 14 member(1, 1); member(0, 0) = 15; member(0, 400) throws IllegalState;
                load(15) = 0; load(16) throws Index
                """);
        holds("all 16 do what members do", fullOfMembers(), """
                kin(0, 15) = 1; barred(0, 15) = 'k'; barred(0, 14) = '-'; tie(15, 14, 'k') = 1;
                supervise(0, 14, true) = 60; barred(0, 14) = 's'; barred(0, 15) = 't'; supervisor(0, 0) = 14;
                load(14) = 60; supervise(0, 15, false) throws Unsupported; supervise(0, 15, true) throws Unsupported
                """);
        holds("0 is this house", Houses.entered(), "member(0, 60) = 8; supervise(0, 8, true) = 60");
        holds("1 is another one", Houses.entered(), "member(1, 400) = 8; supervise(0, 8, true) throws Unsupported");
        holds("5 is another one", Houses.deposited(), """
                member(5, 0) = 8; examiners(0, 8, 4) throws Unsupported; examiners(0, 1, 8) = 0;
                supervise(0, 8, false) throws Unsupported
                """);
        holds("a limit may be 0", Houses.entered(), """
                mode(0, 'h'); member(0, 0) = 8; supervise(0, 8, false) throws Unsupported;
                supervise(0, 8, true) throws Unsupported; upgrade(0, 8, true, 1, true) = 'p'
                """);
        Vivahouse full = Houses.plain();
        for (int i = 0; i < 9; i++) {
            full.candidate('f', false);
        }
        holds("a limit may be 400", full, """
                supervise(0, 0, true) = 60; supervise(1, 0, true) = 120; supervise(2, 0, true) = 180;
                supervise(3, 0, true) = 240; supervise(4, 0, true) = 300; supervise(5, 0, true) = 360;
                supervise(6, 0, true) throws Unsupported; supervise(6, 0, false) = 380; supervise(7, 0, false) = 400;
                supervise(8, 0, false) throws Unsupported; mode(8, 'h'); supervise(8, 0, false) throws Unsupported
                """);
    }

    private static Vivahouse fullOfMembers() {
        Vivahouse x = new Vivahouse();
        x.regulation(6, 12, 6, 2, 3, 3, true);
        for (int i = 0; i < 16; i++) {
            x.member(0, 400);
        }
        x.candidate('f', false);
        return x;
    }

    private static void ties() {
        holds("a tie is a paper, money or kin", Houses.plain(), """
                tie(0, 1, 'p') = 1; tie(0, 1, 'm') = 2; tie(0, 1, 'k') = 3; tie(0, 1, 's') throws IllegalArgument;
                tie(0, 1, 'l') throws IllegalArgument
                """);
        holds("a tie is of two members", Houses.plain(), "tie(7, 7, 'p') throws IllegalArgument; tie(7, 6, 'p') = 1");
        holds("it ties the one as the other", Houses.supervised(), """
                tie(0, 4, 'p'); tie(5, 0, 'm'); barred(0, 4) = 't'; barred(0, 5) = 't'; barred(0, 6) = '-'
                """);
        holds("at most 30 ties", Houses.supervised(), """
                29 tie(6, 7, 'p'); tie(0, 4, 'k') = 30; tie(0, 5, 'k') throws IllegalState; barred(0, 4) = 't';
                barred(0, 5) = '-'
                """);
    }

    private static void years() {
        holds("by 0 years a paper and money do not bar at all", tied(0), "barred(0, 1) = '-'; barred(0, 2) = '-'");
        holds("by 1 year for 11 months", tied(1), "pass(11); barred(0, 1) = 't'; barred(0, 2) = 't'");
        holds("by 1 year not for 12 months", tied(1), "pass(12); barred(0, 1) = '-'; barred(0, 2) = '-'");
        holds("by 3 years for 35 months", tied(3), "pass(35); barred(0, 1) = 't'; pass(1); barred(0, 1) = '-'");
        holds("by 10 years for 119 months", tied(10), "pass(60); pass(59); barred(0, 1) = 't'; barred(0, 2) = 't'");
        holds("by 10 years not for 120 months", tied(10), "2 pass(60); barred(0, 1) = '-'; barred(0, 2) = '-'");
        holds("kin bars for ever, by 0 years too", tied(0), "barred(0, 3) = 't'; 9 pass(60); barred(0, 3) = 't'");
        holds("by the month of each tie", tied(1), """
                pass(6); tie(1, 0, 'p'); pass(11); barred(0, 1) = 't'; barred(0, 2) = '-'; pass(1); barred(0, 1) = '-'
                """);
        holds("by the candidate's regulation, each its own", tied(1), """
                regulation(6, 12, 6, 2, 3, 2, true) = 1; candidate('f', false) = 1; supervise(1, 0, true); pass(12);
                barred(0, 1) = '-'; barred(1, 1) = 't'; pass(12); barred(1, 1) = '-'
                """);
        holds("by the one it was moved to", tied(1), """
                pass(12); regulation(6, 12, 6, 2, 3, 2, true); barred(0, 1) = '-'; pause(0, 's') throws Unsupported;
                candidate('f', false) = 1; supervise(1, 0, true); barred(1, 1) = 't'; move(1, 0) = 1;
                barred(1, 1) = '-'
                """);
    }

    /** Candidate 0 of the first supervisor 0, to whom 1 is tied by a paper, 2 by money and 3 by kin. */
    private static Vivahouse tied(int years) {
        Vivahouse x = new Vivahouse();
        x.regulation(6, 12, 6, 2, 3, years, true);
        for (int i = 0; i < 4; i++) {
            x.member(0, 400);
        }
        x.candidate('f', false);
        x.supervise(0, 0, true);
        x.tie(0, 1, 'p');
        x.tie(0, 2, 'm');
        x.tie(0, 3, 'k');
        return x;
    }

    private static void candidates() {
        holds("at most 12 are numbered from 0", Houses.plain(), """
                candidate('f', false) = 0; 10 candidate('h', true); candidate('f', true) = 11;
                candidate('f', false) throws IllegalState; state(11) = 'a'; state(12) throws Index
                """);
        holds("those who are over are counted", Houses.over(), """
                10 candidate('h', true); candidate('f', true) = 11; candidate('f', false) throws IllegalState
                """);
        holds("full time and half time", Houses.plain(), """
                candidate('f', false) = 0; candidate('h', false) = 1; candidate('g', false) throws IllegalArgument;
                mode(0, 'h') = 'f'; mode(1, 'f') = 'h'; mode(1, 'g') throws IllegalArgument
                """);
        holds("active, paused, over", Houses.entered(),
                "state(0) = 'a'; pause(0, 's'); state(0) = 'p'; resume(0); state(0) = 'a'; pass(6); state(0) = 'o'");
        holds("the outcome is - as long as it is not over", Houses.entered(), """
                outcome(0) = '-'; pass(5); outcome(0) = '-'; pause(0, 'w'); outcome(0) = '-'; resume(0); pass(1);
                outcome(0) = 'n'
                """);
        holds("sick, leave or work", Houses.entered(), """
                pause(0, 's') = 1; resume(0); pause(0, 'l') = 2; resume(0); pause(0, 'w') = 3; resume(0);
                pause(0, 'k') throws IllegalArgument; pause(0, 'p') throws IllegalArgument
                """);
    }

    private static void clocks() {
        holds("2 halves in full time", Houses.entered(), "pass(1); clock(0) = 2; pass(4); clock(0) = 10");
        holds("1 half in half time", Houses.entered(), "mode(0, 'h'); pass(1); clock(0) = 1; pass(4); clock(0) = 5");
        holds("0 of a sick one", Houses.entered(), "pause(0, 's'); pass(60); clock(0) = 0");
        holds("0 of one at work", Houses.entered(), "pause(0, 'w'); pass(60); clock(0) = 0");
        holds("as if active in a leave that counts, full time", Houses.entered(),
                "pause(0, 'l'); pass(3); clock(0) = 6");
        holds("as if active in a leave that counts, half time", Houses.entered(),
                "mode(0, 'h'); pause(0, 'l'); pass(3); clock(0) = 3");
        holds("by the mode told in the leave", Houses.entered(),
                "pause(0, 'l'); pass(1); mode(0, 'h'); pass(1); clock(0) = 3");
        holds("0 in a leave that does not count", Houses.plain(), """
                regulation(6, 12, 6, 2, 3, 3, false); candidate('f', false); pause(0, 'l'); pass(60); clock(0) = 0
                """);
        holds("a leave that counts ends the candidacy as well", Houses.entered(),
                "pause(0, 'l'); pass(6); outcome(0) = 'n'; clock(0) = 12");
    }

    private static void limits() {
        holds("twice the most months", Houses.entered(), "limit(0) = 24");
        holds("and twice the months of extensions", Houses.entered(),
                "extend(0, 1) = 26; extend(0, 12) = 50; limit(0) = 50");
        holds("at most 3 extensions", Houses.entered(), """
                3 extend(0, 1); limit(0) = 30; extend(0, 1) throws Unsupported; extend(0, 12) throws Unsupported
                """);
        holds("the least limit", new Vivahouse(),
                "regulation(6, 6, 6, 2, 3, 3, true); candidate('h', false); limit(0) = 12");
        holds("the greatest limit", longest(),
                "3 extend(0, 12); limit(0) = 312; reaches(0) = 156; mode(0, 'h'); reaches(0) = 312");
        holds("extensions are kept in a move", Houses.entered(), """
                extend(0, 2); regulation(6, 20, 6, 2, 3, 3, true); move(0, 1); limit(0) = 44; extend(0, 1) = 46;
                extend(0, 1) = 48; extend(0, 1) throws Unsupported
                """);
        holds("each candidate has extensions of its own", Houses.entered(),
                "candidate('f', false); 3 extend(0, 1); extend(1, 12) = 48; limit(0) = 30");
    }

    private static void monthsGoBy() {
        holds("the month that ends the candidacy is in the clock and is paid", Houses.entered(),
                "grant(0, 9, 60, 0); pass(6); clock(0) = 12; money(0) = 54; left(0) = 54; state(0) = 'o'");
        holds("no month of one who is over", Houses.entered(),
                "grant(0, 9, 60, 0); pass(7); clock(0) = 12; money(0) = 54; left(0) = 54; pass(60); clock(0) = 12");
        holds("for each candidate", Houses.entered(), """
                candidate('h', false); candidate('f', false); pause(2, 's'); grant(1, 5, 1, 0); pass(2); clock(0) = 4;
                clock(1) = 2; clock(2) = 0; money(1) = 5
                """);
        holds("many months are as each of them", Houses.entered(), """
                candidate('h', false); grant(1, 5, 9, 3); pass(60); outcome(0) = 'n'; clock(0) = 12; outcome(1) = 'n';
                clock(1) = 12; money(1) = 45
                """);
        holds("a grant that has begun by that month", Houses.entered(),
                "grant(0, 9, 2, 1); pass(1); money(0) = 0; left(0) = 2; pass(1); money(0) = 9; left(0) = 1");
        holds("a grant that has months left", Houses.entered(),
                "grant(0, 9, 1, 0); pass(1); money(0) = 9; left(0) = 0; pass(1); money(0) = 9; left(0) = 0");
        holds("a sick one is paid", Houses.entered(),
                "grant(0, 9, 2, 0); pause(0, 's'); pass(1); money(0) = 9; left(0) = 1");
        holds("one in leave is not", Houses.entered(), "grant(0, 9, 2, 0); pause(0, 'l'); pass(1); money(0) = 0");
        holds("one at work is not", Houses.entered(), "grant(0, 9, 2, 0); pause(0, 'w'); pass(1); money(0) = 0");
        holds("the month of an award is not one more", Houses.after('p', 'p'),
                "grant(0, 9, 2, 0); award(0) = 1; pass(1); clock(0) = 12; money(0) = 0; left(0) = 2");
    }

    private static void endsByUpgrade() {
        holds("a half below its months", Houses.entered(), "mode(0, 'h'); pass(11); clock(0) = 11; outcome(0) = '-'");
        holds("at its months", Houses.entered(), "mode(0, 'h'); pass(12); clock(0) = 12; outcome(0) = 'n'");
        holds("more than its months", Houses.entered(), """
                mode(0, 'h'); pass(1); mode(0, 'f'); pass(5); clock(0) = 11; outcome(0) = '-'; pass(1); clock(0) = 13;
                outcome(0) = 'n'
                """);
        holds("not with the upgrade", Houses.upgraded(), "pass(6); outcome(0) = '-'");
        holds("by the regulation it was moved to, in a pause too", Houses.entered(), """
                regulation(6, 12, 2, 2, 3, 3, true); pass(4); move(0, 1); pause(0, 's'); outcome(0) = '-'; pass(1);
                outcome(0) = 'n'; clock(0) = 8
                """);
        holds("ahead of the limit, where both hold", new Vivahouse(),
                "regulation(6, 6, 6, 2, 3, 3, true); candidate('f', false); pass(6); outcome(0) = 'n'");
        holds("one that was not passed once is without it", Houses.supervised(),
                "upgrade(0, 1, true, 2, false) = 'r'; pass(6); outcome(0) = 'n'");
    }

    private static void endsByLimit() {
        holds("a half below the limit", Houses.upgraded(), "mode(0, 'h'); pass(23); clock(0) = 23; outcome(0) = '-'");
        holds("at the limit", Houses.upgraded(), "mode(0, 'h'); pass(24); clock(0) = 24; outcome(0) = 'l'");
        holds("more than the limit", Houses.upgraded(), """
                mode(0, 'h'); pass(1); mode(0, 'f'); pass(11); clock(0) = 23; outcome(0) = '-'; pass(1);
                clock(0) = 25; outcome(0) = 'l'
                """);
        holds("not with a deposit that stands", Houses.upgraded(),
                "pass(11); deposit(0, 100) = 1; pass(60); outcome(0) = '-'; clock(0) = 142");
        holds("the deposit is in time until the limit's month went by", Houses.upgraded(),
                "pass(12); outcome(0) = 'l'; deposit(0, 0) throws Unsupported");
        holds("with a deposit that was referred", Houses.examined(),
                "pass(6); outcome(0) = '-'; viva(0, 'r', 'r') = 'r'; outcome(0) = '-'; pass(1); outcome(0) = 'l'");
        holds("a new deposit in the month of the referral", Houses.examined(),
                "pass(20); viva(0, 'r', 'r') = 'r'; deposit(0, 0) = 2; pass(1); outcome(0) = '-'");
        holds("in a pause, by a lower limit", Houses.upgraded(), """
                regulation(6, 6, 6, 2, 3, 3, true); pass(8); pause(0, 'w'); move(0, 1); limit(0) = 12; reaches(0) = 8;
                gap(0) = 0; pass(1); outcome(0) = 'l'
                """);
        holds("an extension in time", Houses.upgraded(),
                "pass(11); extend(0, 1); pass(1); outcome(0) = '-'; pass(1); outcome(0) = 'l'");
    }

    private static void endsByCorrections() {
        holds("not ahead of the month in which they are due", Houses.after('i', 'i'),
                "pass(2) = 8; due(0) = 8; outcome(0) = '-'");
        holds("as that month went by", Houses.after('i', 'i'), "pass(3) = 9; outcome(0) = 'f'; state(0) = 'o'");
        holds("its clock has that month", Houses.after('i', 'i'), "pass(3); clock(0) = 18");
        holds("not if they were signed in it", Houses.after('i', 'i'),
                "pass(2); sign(0, 4) = true; pass(1); outcome(0) = '-'; award(0) = 1");
        holds("major ones signed by one are not signed", Houses.after('j', 'j'),
                "sign(0, 4) = false; pass(3) = 9; outcome(0) = '-'; pass(1); outcome(0) = 'f'");
        holds("major ones signed by both are", Houses.after('j', 'j'),
                "pass(3); sign(0, 4) = false; sign(0, 1) = true; pass(1); outcome(0) = '-'");
        holds("in a pause too", Houses.after('i', 'i'),
                "pause(0, 's'); pass(2); outcome(0) = '-'; pass(1); outcome(0) = 'f'");
        holds("with the award open no time ends it", Houses.after('p', 'p'),
                "2 pass(60); outcome(0) = '-'; award(0) = 1");
    }
}
