import java.util.ArrayList;
import java.util.NoSuchElementException;

/** A house that makes doctors; what each method promises stands in the document of the project. */
public final class Vivahouse {
    private static final int LAST_MONTH = 600;
    private static final int MOST_REGULATIONS = 5;
    private static final int MOST_MEMBERS = 16;
    private static final int MOST_TIES = 30;
    private static final int MOST_CANDIDATES = 12;
    private static final int MOST_GRANTS = 20;
    private static final int MOST_EXTENSIONS = 3;
    private static final int MOST_DEPOSITS = 4;
    private static final int MOST_PAPERS = 9;
    private static final int MOST_GROUNDS = 5;
    private static final int LIKENESS_TO_CLEAR = 20;
    private static final int MONTHS_TO_APPEAL = 3;
    private static final int MONTHS_OF_USE = 24;

    private static final int NOBODY = -1;
    private static final int NEVER = -1;
    private static final int THIS_HOUSE = 0;

    private static final char FULL = 'f';
    private static final char HALF = 'h';
    private static final char ACTIVE = 'a';
    private static final char PAUSED = 'p';
    private static final char OVER = 'o';
    private static final char SICK = 's';
    private static final char LEAVE = 'l';
    private static final char WORK = 'w';
    private static final char PAPER_TIE = 'p';
    private static final char MONEY_TIE = 'm';
    private static final char KIN_TIE = 'k';
    private static final char NONE = '-';
    private static final char SPLIT = '?';
    private static final char PASS = 'p';
    private static final char MINOR = 'i';
    private static final char MAJOR = 'j';
    private static final char REFER = 'r';
    private static final char LESSER = 'm';
    private static final char FAIL = 'f';
    private static final char NO_UPGRADE = 'n';
    private static final char NO_TIME = 'l';
    private static final char UNDONE = 'x';
    private static final char COPIED = 'q';
    private static final char MADE_UP = 'z';

    private final ArrayList<Regulation> regulations = new ArrayList<Regulation>();
    private final ArrayList<Member> members = new ArrayList<Member>();
    private final ArrayList<Tie> ties = new ArrayList<Tie>();
    private final ArrayList<Candidate> candidates = new ArrayList<Candidate>();
    private final ArrayList<Grant> grants = new ArrayList<Grant>();
    private final ArrayList<Viva> vivas = new ArrayList<Viva>();
    private int month = 0;
    private int awards = 0;
    private int withdrawnPapers = 0;

    public Vivahouse() {
    }

    // Regulations, members and ties

    public int regulation(int least, int most, int upgrade, int minor, int major, int years, boolean countsLeave)
            throws IllegalArgumentException, IllegalStateException {
        boolean isClockFit = isWithin(least, 6, 120) && isWithin(most, least, 120) && isWithin(upgrade, 1, 60);
        boolean areCorrectionsFit = isWithin(minor, 1, 24) && isWithin(major, 1, 24);
        if (!isClockFit || !areCorrectionsFit || !isWithin(years, 0, 10)) {
            throw new IllegalArgumentException();
        }
        if (regulations.size() >= MOST_REGULATIONS) {
            throw new IllegalStateException();
        }
        regulations.add(new Regulation(least, most, upgrade, minor, major, years, countsLeave));
        return regulations.size() - 1;
    }

    public int member(int house, int limit) throws IllegalArgumentException, IllegalStateException {
        if (!isWithin(house, 0, 5) || !isWithin(limit, 0, 400)) {
            throw new IllegalArgumentException();
        }
        if (members.size() >= MOST_MEMBERS) {
            throw new IllegalStateException();
        }
        members.add(new Member(house, limit));
        return members.size() - 1;
    }

    public int tie(int one, int other, char kind)
            throws IndexOutOfBoundsException, IllegalArgumentException, IllegalStateException {
        memberAt(one);
        memberAt(other);
        if (one == other || kind != PAPER_TIE && kind != MONEY_TIE && kind != KIN_TIE) {
            throw new IllegalArgumentException();
        }
        if (ties.size() >= MOST_TIES) {
            throw new IllegalStateException();
        }
        ties.add(new Tie(one, other, kind, month));
        return ties.size();
    }

    public int kin(int candidate, int member) throws IndexOutOfBoundsException, UnsupportedOperationException {
        Candidate c = candidateAt(candidate);
        memberAt(member);
        if (c.isKin(member)) {
            throw new UnsupportedOperationException();
        }
        c.kin |= 1 << member;
        return Integer.bitCount(c.kin);
    }

    // Candidates and their clocks

    public int candidate(char mode, boolean needsEthics)
            throws IllegalArgumentException, UnsupportedOperationException, IllegalStateException {
        if (!isMode(mode)) {
            throw new IllegalArgumentException();
        }
        int newest = regulations.size() - 1;
        if (newest < 0) {
            throw new UnsupportedOperationException();
        }
        if (candidates.size() >= MOST_CANDIDATES) {
            throw new IllegalStateException();
        }
        Clock clock = new Clock(mode, newest, regulations.get(newest));
        Candidate c = new Candidate(candidates.size(), month, needsEthics, clock);
        candidates.add(c);
        notePace(c, month);
        return c.number;
    }

    public char mode(int candidate, char mode)
            throws IndexOutOfBoundsException, IllegalArgumentException, UnsupportedOperationException {
        Candidate c = candidateAt(candidate);
        if (!isMode(mode)) {
            throw new IllegalArgumentException();
        }
        if (c.isOver()) {
            throw new UnsupportedOperationException();
        }
        char before = c.clock.mode;
        c.clock.mode = mode;
        notePace(c, month);
        return before;
    }

    public int pause(int candidate, char kind)
            throws IndexOutOfBoundsException, IllegalArgumentException, UnsupportedOperationException {
        Candidate c = candidateAt(candidate);
        if (kind != SICK && kind != LEAVE && kind != WORK) {
            throw new IllegalArgumentException();
        }
        if (c.state != ACTIVE) {
            throw new UnsupportedOperationException();
        }
        c.state = PAUSED;
        c.clock.pauseKind = kind;
        c.clock.pausedIn = month;
        c.clock.pauses++;
        notePace(c, month);
        return c.clock.pauses;
    }

    public int resume(int candidate) throws IndexOutOfBoundsException, UnsupportedOperationException {
        Candidate c = candidateAt(candidate);
        if (c.state != PAUSED) {
            throw new UnsupportedOperationException();
        }
        c.state = ACTIVE;
        notePace(c, month);
        return month - c.clock.pausedIn;
    }

    public int move(int candidate, int regulation) throws IndexOutOfBoundsException, UnsupportedOperationException {
        Candidate c = candidateAt(candidate);
        Regulation next = regulationAt(regulation);
        Clock clock = c.clock;
        if (c.isOver() || clock.wasMoved || clock.regulationNumber == regulation) {
            throw new UnsupportedOperationException();
        }
        int before = clock.regulationNumber;
        clock.regulationNumber = regulation;
        clock.regulation = next;
        clock.wasMoved = true;
        notePace(c, month);
        return before;
    }

    public int extend(int candidate, int months)
            throws IndexOutOfBoundsException, IllegalArgumentException, UnsupportedOperationException {
        Candidate c = candidateAt(candidate);
        if (!isWithin(months, 1, 12)) {
            throw new IllegalArgumentException();
        }
        if (c.isOver() || c.clock.extensions >= MOST_EXTENSIONS) {
            throw new UnsupportedOperationException();
        }
        c.clock.extensions++;
        c.clock.extraMonths += months;
        return c.clock.limitHalves();
    }

    public int pass(int months) throws IllegalArgumentException, IllegalStateException {
        if (!isWithin(months, 1, 60)) {
            throw new IllegalArgumentException();
        }
        if (month + months > LAST_MONTH) {
            throw new IllegalStateException();
        }
        for (int i = 0; i < months; i++) {
            passOneMonth();
        }
        return month;
    }

    public int month() {
        return month;
    }

    public int clock(int candidate) throws IndexOutOfBoundsException {
        return candidateAt(candidate).clock.halves;
    }

    public int limit(int candidate) throws IndexOutOfBoundsException {
        return candidateAt(candidate).clock.limitHalves();
    }

    public int reaches(int candidate) throws IndexOutOfBoundsException, NoSuchElementException {
        Candidate c = candidateAt(candidate);
        if (c.isOver()) {
            throw new NoSuchElementException();
        }
        if (c.clock.isAtLimit()) {
            return month;
        }
        int pace = paceOf(c);
        if (pace == 0) {
            throw new NoSuchElementException();
        }
        return month + c.clock.monthsToLimit(pace);
    }

    public char state(int candidate) throws IndexOutOfBoundsException {
        return candidateAt(candidate).state;
    }

    public char outcome(int candidate) throws IndexOutOfBoundsException {
        return candidateAt(candidate).outcome;
    }

    // Supervisors

    public int supervise(int candidate, int member, boolean isFirst)
            throws IndexOutOfBoundsException, UnsupportedOperationException {
        Candidate c = candidateAt(candidate);
        Member m = memberAt(member);
        int load = loadOf(member) + loadBy(c, isFirst);
        if (c.isOver() || m.house != THIS_HOUSE || load > m.limit || !isFirst && c.team.isFull()) {
            throw new UnsupportedOperationException();
        }
        if (c.team.has(member) || isExaminerOf(c.thesis.standing, member)
                || c.isKin(member) || isKinOfStaying(c.team, member, isFirst)) {
            throw new UnsupportedOperationException();
        }
        c.team.admit(member, isFirst);
        return load;
    }

    public int release(int candidate, int member) throws IndexOutOfBoundsException, UnsupportedOperationException {
        Candidate c = candidateAt(candidate);
        memberAt(member);
        if (c.isOver() || !c.team.hasFurther(member)) {
            throw new UnsupportedOperationException();
        }
        c.team.dismiss(member);
        return c.team.countFurther();
    }

    public int supervisor(int candidate, int index) throws IndexOutOfBoundsException, NoSuchElementException {
        int member = candidateAt(candidate).team.at(index);
        if (member == NOBODY) {
            throw new NoSuchElementException();
        }
        return member;
    }

    public int load(int member) throws IndexOutOfBoundsException {
        memberAt(member);
        return loadOf(member);
    }

    // Money

    public int grant(int candidate, int amount, int months, int from) throws IndexOutOfBoundsException,
            IllegalArgumentException, UnsupportedOperationException, IllegalStateException {
        Candidate c = candidateAt(candidate);
        if (!isWithin(amount, 1, 9999) || !isWithin(months, 1, 60) || !isWithin(from, 0, LAST_MONTH)) {
            throw new IllegalArgumentException();
        }
        if (c.isOver()) {
            throw new UnsupportedOperationException();
        }
        if (grants.size() >= MOST_GRANTS) {
            throw new IllegalStateException();
        }
        grants.add(new Grant(c.number, amount, months, from));
        return grants.size() - 1;
    }

    public int left(int grant) throws IndexOutOfBoundsException {
        if (grant < 0 || grant >= grants.size()) {
            throw new IndexOutOfBoundsException();
        }
        return grants.get(grant).left;
    }

    public int money(int candidate) throws IndexOutOfBoundsException {
        return candidateAt(candidate).money;
    }

    public int gap(int candidate) throws IndexOutOfBoundsException, UnsupportedOperationException {
        Candidate c = candidateAt(candidate);
        if (c.isOver()) {
            throw new UnsupportedOperationException();
        }
        int pace = paceOf(c);
        if (pace == 0 || c.clock.isAtLimit()) {
            return 0;
        }
        int end = month + c.clock.monthsToLimit(pace);
        int unpaid = 0;
        for (int m = month; m < end; m++) {
            if (!wouldBePaid(c, m)) {
                unpaid++;
            }
        }
        return unpaid;
    }

    // Hurdles

    public int ethics(int candidate) throws IndexOutOfBoundsException, UnsupportedOperationException {
        Candidate c = candidateAt(candidate);
        if (c.isOver() || !c.lacksEthics()) {
            throw new UnsupportedOperationException();
        }
        c.hasEthics = true;
        int approved = 0;
        for (int i = 0; i < candidates.size(); i++) {
            if (candidates.get(i).hasEthics) {
                approved++;
            }
        }
        return approved;
    }

    public char upgrade(int candidate, int one, boolean isYes, int other, boolean isYesToo)
            throws IndexOutOfBoundsException, UnsupportedOperationException {
        Candidate c = candidateAt(candidate);
        Member m = memberAt(one);
        Member n = memberAt(other);
        if (c.state != ACTIVE || c.isUpgraded || c.lacksEthics()) {
            throw new UnsupportedOperationException();
        }
        if (one == other || m.house != THIS_HOUSE || n.house != THIS_HOUSE) {
            throw new UnsupportedOperationException();
        }
        if (c.team.has(one) || c.team.has(other)) {
            throw new UnsupportedOperationException();
        }
        if (isYes && isYesToo) {
            c.isUpgraded = true;
            return PASS;
        }
        if (!c.hasFailedUpgrade) {
            c.hasFailedUpgrade = true;
            return REFER;
        }
        endCandidacy(c, LESSER, month);
        return LESSER;
    }

    public int publish(int candidate) throws IndexOutOfBoundsException, UnsupportedOperationException {
        Candidate c = candidateAt(candidate);
        if (c.papers >= MOST_PAPERS || c.outcome == UNDONE) {
            throw new UnsupportedOperationException();
        }
        c.papers++;
        return c.papers;
    }

    public int deposit(int candidate, int likeness)
            throws IndexOutOfBoundsException, IllegalArgumentException, UnsupportedOperationException {
        Candidate c = candidateAt(candidate);
        if (!isWithin(likeness, 0, 100)) {
            throw new IllegalArgumentException();
        }
        if (c.state != ACTIVE || !c.isUpgraded || c.clock.halves < 2 * c.clock.regulation.least) {
            throw new UnsupportedOperationException();
        }
        if (c.thesis.standing != null || c.thesis.deposits >= MOST_DEPOSITS) {
            throw new UnsupportedOperationException();
        }
        c.thesis.standing = new Deposit(likeness);
        c.thesis.deposits++;
        return c.thesis.deposits;
    }

    public int clear(int candidate, int member) throws IndexOutOfBoundsException, UnsupportedOperationException {
        Candidate c = candidateAt(candidate);
        memberAt(member);
        Deposit d = c.thesis.standing;
        if (d == null || !d.lacksClearing() || c.team.has(member)) {
            throw new UnsupportedOperationException();
        }
        d.isCleared = true;
        return d.likeness;
    }

    // Examiners and vivas

    public char barred(int candidate, int member) throws IndexOutOfBoundsException {
        Candidate c = candidateAt(candidate);
        memberAt(member);
        return barOf(c, member);
    }

    public int examiners(int candidate, int one, int other)
            throws IndexOutOfBoundsException, UnsupportedOperationException {
        Candidate c = candidateAt(candidate);
        Member m = memberAt(one);
        Member n = memberAt(other);
        Deposit d = c.thesis.standing;
        if (d == null || d.lacksClearing() || d.viva != null) {
            throw new UnsupportedOperationException();
        }
        if (m.house != THIS_HOUSE || n.house == THIS_HOUSE) {
            throw new UnsupportedOperationException();
        }
        if (barOf(c, one) != NONE || barOf(c, other) != NONE) {
            throw new UnsupportedOperationException();
        }
        d.one = one;
        d.other = other;
        return countVivasOf(one);
    }

    public char viva(int candidate, char one, char other)
            throws IndexOutOfBoundsException, IllegalArgumentException, UnsupportedOperationException {
        Candidate c = candidateAt(candidate);
        int rank = rankOf(one);
        int otherRank = rankOf(other);
        if (rank < 0 || otherRank < 0) {
            throw new IllegalArgumentException();
        }
        Deposit d = c.thesis.standing;
        if (d == null || d.one == NOBODY || d.viva != null) {
            throw new UnsupportedOperationException();
        }
        Viva held = new Viva(c.number, month, d.one, d.other);
        d.viva = held;
        vivas.add(held);
        if (Math.abs(rank - otherRank) > 1) {
            held.isSplit = true;
            return SPLIT;
        }
        return decide(c, held, rank > otherRank ? one : other);
    }

    public char adjudicate(int candidate, int member, char result)
            throws IndexOutOfBoundsException, IllegalArgumentException, UnsupportedOperationException {
        Candidate c = candidateAt(candidate);
        Member m = memberAt(member);
        if (rankOf(result) < 0) {
            throw new IllegalArgumentException();
        }
        Viva held = c.thesis.heldViva();
        if (held == null || !held.isSplit || m.house == THIS_HOUSE) {
            throw new UnsupportedOperationException();
        }
        if (held.isExaminer(member) || barOf(c, member) != NONE) {
            throw new UnsupportedOperationException();
        }
        held.isSplit = false;
        return decide(c, held, result);
    }

    public int due(int candidate) throws IndexOutOfBoundsException, NoSuchElementException {
        Viva held = candidateAt(candidate).thesis.heldViva();
        if (held == null || held.due == NEVER) {
            throw new NoSuchElementException();
        }
        return held.due;
    }

    public boolean sign(int candidate, int member) throws IndexOutOfBoundsException, UnsupportedOperationException {
        Candidate c = candidateAt(candidate);
        memberAt(member);
        Viva held = c.thesis.heldViva();
        if (held == null || held.due == NEVER || !held.isExaminer(member) || held.signer == member) {
            throw new UnsupportedOperationException();
        }
        if (held.isMajor && held.signer == NOBODY) {
            held.signer = member;
            return false;
        }
        held.due = NEVER;
        c.thesis.isAwardOpen = true;
        return true;
    }

    public int award(int candidate) throws IndexOutOfBoundsException, UnsupportedOperationException {
        Candidate c = candidateAt(candidate);
        if (!c.thesis.isAwardOpen) {
            throw new UnsupportedOperationException();
        }
        c.thesis.isAwardOpen = false;
        endCandidacy(c, PASS, month);
        awards++;
        return awards;
    }

    // Appeals and degrees undone

    public boolean appeal(int candidate, boolean isUpheld)
            throws IndexOutOfBoundsException, UnsupportedOperationException {
        Candidate c = candidateAt(candidate);
        Deposit d = c.thesis.standing;
        if (d == null || !c.thesis.isOverByViva || c.thesis.hasAppealed || month - c.endedIn >= MONTHS_TO_APPEAL) {
            throw new UnsupportedOperationException();
        }
        c.thesis.hasAppealed = true;
        if (isUpheld) {
            forgetViva(d);
            c.thesis.isOverByViva = false;
            c.state = ACTIVE;
            c.outcome = NONE;
            notePace(c, month);
        }
        return isUpheld;
    }

    public int ground(int candidate, char kind)
            throws IndexOutOfBoundsException, IllegalArgumentException, UnsupportedOperationException {
        Candidate c = candidateAt(candidate);
        if (kind != COPIED && kind != MADE_UP) {
            throw new IllegalArgumentException();
        }
        int told = c.groundCount;
        if (c.outcome != PASS || told < 0 || told >= c.grounds.length) {
            throw new UnsupportedOperationException();
        }
        c.grounds[told] = kind;
        c.groundCount = told + 1;
        return c.groundCount;
    }

    public char reason(int candidate, int depth) throws IndexOutOfBoundsException, NoSuchElementException {
        Candidate c = candidateAt(candidate);
        if (depth < 0 || depth >= c.groundCount) {
            throw new NoSuchElementException();
        }
        int at = c.groundCount - 1 - depth;
        if (at < 0 || at >= c.grounds.length) {
            throw new NoSuchElementException();
        }
        return c.grounds[at];
    }

    public boolean panel(int candidate, int one, int two, int three, int votes)
            throws IndexOutOfBoundsException, IllegalArgumentException, UnsupportedOperationException {
        Candidate c = candidateAt(candidate);
        memberAt(one);
        memberAt(two);
        memberAt(three);
        if (!isWithin(votes, 0, 3)) {
            throw new IllegalArgumentException();
        }
        if (c.groundCount == 0 || one == two || one == three || two == three) {
            throw new UnsupportedOperationException();
        }
        if (!maySitInPanel(c, one) || !maySitInPanel(c, two) || !maySitInPanel(c, three)) {
            throw new UnsupportedOperationException();
        }
        boolean isUndone = votes >= 2;
        if (isUndone) {
            c.outcome = UNDONE;
            withdrawnPapers += c.papers;
            c.papers = 0;
        } else {
            c.groundCount = 0;
        }
        return isUndone;
    }

    public int papers(int candidate) throws IndexOutOfBoundsException {
        return candidateAt(candidate).papers;
    }

    public int withdrawn() {
        return withdrawnPapers;
    }

    // The whole house

    public long checksum() {
        long sum = 7;
        for (int i = 0; i < candidates.size(); i++) {
            Candidate c = candidates.get(i);
            sum = 31 * sum + c.clock.halves;
            sum = 31 * sum + c.money;
            sum = 31 * sum + c.state + c.outcome;
        }
        return sum;
    }

    public float awardShare(int from, int to) throws ArithmeticException {
        int entered = 0;
        int awarded = 0;
        for (int i = 0; i < candidates.size(); i++) {
            Candidate c = candidates.get(i);
            if (isWithin(c.entered, from, to)) {
                entered++;
                awarded += c.outcome == PASS ? 1 : 0;
            }
        }
        if (entered == 0) {
            throw new ArithmeticException();
        }
        return (float) awarded / (float) entered;
    }

    public double meanClock() throws ArithmeticException {
        int sum = 0;
        int awarded = 0;
        for (int i = 0; i < candidates.size(); i++) {
            Candidate c = candidates.get(i);
            if (c.outcome == PASS) {
                sum += c.clock.halves;
                awarded++;
            }
        }
        if (awarded == 0) {
            throw new ArithmeticException();
        }
        return (double) sum / (double) awarded;
    }

    public boolean isSound() {
        for (int i = 0; i < candidates.size(); i++) {
            if (!isSoundFor(candidates.get(i))) {
                return false;
            }
        }
        return true;
    }

    // Numbers and letters that a caller gave

    private static boolean isWithin(int number, int least, int most) {
        return number >= least && number <= most;
    }

    private static boolean isMode(char letter) {
        return letter == FULL || letter == HALF;
    }

    private static int rankOf(char result) {
        switch (result) {
            case PASS:
                return 0;
            case MINOR:
                return 1;
            case MAJOR:
                return 2;
            case REFER:
                return 3;
            case LESSER:
                return 4;
            case FAIL:
                return 5;
            default:
                return -1;
        }
    }

    private Regulation regulationAt(int number) {
        if (number < 0 || number >= regulations.size()) {
            throw new IndexOutOfBoundsException();
        }
        return regulations.get(number);
    }

    private Member memberAt(int number) {
        if (number < 0 || number >= members.size()) {
            throw new IndexOutOfBoundsException();
        }
        return members.get(number);
    }

    private Candidate candidateAt(int number) {
        if (number < 0 || number >= candidates.size()) {
            throw new IndexOutOfBoundsException();
        }
        return candidates.get(number);
    }

    // How a month goes by

    private void passOneMonth() {
        for (int i = 0; i < candidates.size(); i++) {
            Candidate c = candidates.get(i);
            if (!c.isOver()) {
                c.clock.halves += paceOf(c);
                payGrants(c);
                endIfTimeIsUp(c);
            }
        }
        month++;
    }

    private void payGrants(Candidate c) {
        if (!isPayable(c)) {
            return;
        }
        for (int i = 0; i < grants.size(); i++) {
            Grant g = grants.get(i);
            if (g.candidate == c.number && g.from <= month && g.left > 0) {
                c.money += g.amount;
                g.left--;
            }
        }
    }

    // The month that goes by counted already, so the candidate's pace is gone from the next one on.
    private void endIfTimeIsUp(Candidate c) {
        Viva held = c.thesis.heldViva();
        if (!c.isUpgraded && c.clock.halves >= 2 * c.clock.regulation.upgrade) {
            endCandidacy(c, NO_UPGRADE, month + 1);
        } else if (c.thesis.standing == null && c.clock.isAtLimit()) {
            endCandidacy(c, NO_TIME, month + 1);
        } else if (held != null && held.due != NEVER && held.due <= month) {
            // Who is over owes no corrections: else a signature could still open an award.
            held.due = NEVER;
            c.thesis.isOverByViva = true;
            endCandidacy(c, FAIL, month + 1);
        }
    }

    private void endCandidacy(Candidate c, char outcome, int firstMonthWithout) {
        c.state = OVER;
        c.outcome = outcome;
        c.endedIn = month;
        notePace(c, firstMonthWithout);
    }

    private static boolean isPayable(Candidate c) {
        return c.state == ACTIVE || c.state == PAUSED && c.clock.pauseKind == SICK;
    }

    private boolean wouldBePaid(Candidate c, int inMonth) {
        if (!isPayable(c)) {
            return false;
        }
        for (int i = 0; i < grants.size(); i++) {
            Grant g = grants.get(i);
            int begin = Math.max(g.from, month);
            if (g.candidate == c.number && inMonth >= begin && inMonth < begin + g.left) {
                return true;
            }
        }
        return false;
    }

    private static int paceOf(Candidate c) {
        Clock clock = c.clock;
        boolean isInCountedLeave =
                c.state == PAUSED && clock.pauseKind == LEAVE && clock.regulation.countsLeave;
        if (c.state != ACTIVE && !isInCountedLeave) {
            return 0;
        }
        return clock.mode == FULL ? 2 : 1;
    }

    // isSound reckons the clock from these notes, so each call that may change the pace leaves one.
    private static void notePace(Candidate c, int from) {
        c.clock.note(from, paceOf(c));
    }

    // Loads and ties

    private static int loadBy(Candidate c, boolean isFirst) {
        int whole = isFirst ? 60 : 20;
        return c.clock.mode == FULL ? whole : whole / 2;
    }

    private int loadOf(int member) {
        int load = 0;
        for (int i = 0; i < candidates.size(); i++) {
            Candidate c = candidates.get(i);
            if (!c.isOver() && c.team.has(member)) {
                load += loadBy(c, c.team.first == member);
            }
        }
        return load;
    }

    private boolean isKinOfStaying(Team team, int member, boolean isFirst) {
        for (int i = 0; i < ties.size(); i++) {
            Tie t = ties.get(i);
            int partner = t.partnerOf(member);
            boolean isStaying = team.hasFurther(partner) || !isFirst && team.first == partner;
            if (t.kind == KIN_TIE && partner != NOBODY && isStaying) {
                return true;
            }
        }
        return false;
    }

    // Who may judge

    private char barOf(Candidate c, int member) {
        if (c.team.hasKnown(member)) {
            return 's';
        }
        if (isTiedToTeam(c, member)) {
            return 't';
        }
        if (c.isKin(member)) {
            return 'k';
        }
        return isOverused(c, member) ? 'x' : NONE;
    }

    private boolean isTiedToTeam(Candidate c, int member) {
        for (int i = 0; i < ties.size(); i++) {
            Tie t = ties.get(i);
            int partner = t.partnerOf(member);
            if (partner != NOBODY && c.team.has(partner) && bars(t, c.clock.regulation)) {
                return true;
            }
        }
        return false;
    }

    private boolean bars(Tie t, Regulation regulation) {
        return t.kind == KIN_TIE || month - t.month < 12 * regulation.years;
    }

    private boolean isOverused(Candidate c, int member) {
        int first = c.team.first;
        if (first == NOBODY) {
            return false;
        }
        int examined = 0;
        for (int i = 0; i < candidates.size(); i++) {
            Candidate other = candidates.get(i);
            if (other != c && other.team.first == first && hasExaminedLately(member, other)) {
                examined++;
            }
        }
        return examined >= 2;
    }

    private boolean hasExaminedLately(int member, Candidate c) {
        for (int i = 0; i < vivas.size(); i++) {
            Viva v = vivas.get(i);
            if (v.candidate == c.number && v.isExaminer(member) && month - v.month < MONTHS_OF_USE) {
                return true;
            }
        }
        return false;
    }

    private int countVivasOf(int member) {
        int count = 0;
        for (int i = 0; i < vivas.size(); i++) {
            if (vivas.get(i).isExaminer(member)) {
                count++;
            }
        }
        return count;
    }

    private static boolean isExaminerOf(Deposit d, int member) {
        return d != null && (d.one == member || d.other == member);
    }

    private boolean maySitInPanel(Candidate c, int member) {
        return !isExaminerOf(c.thesis.standing, member) && barOf(c, member) == NONE;
    }

    // What a viva brings

    private char decide(Candidate c, Viva held, char told) {
        char result = told == REFER && c.thesis.wasReferred ? LESSER : told;
        switch (result) {
            case PASS:
                c.thesis.isAwardOpen = true;
                break;
            case MINOR:
                held.due = month + c.clock.regulation.minor;
                break;
            case MAJOR:
                held.due = month + c.clock.regulation.major;
                held.isMajor = true;
                break;
            case REFER:
                c.thesis.standing = null;
                c.thesis.wasReferred = true;
                break;
            default:
                c.thesis.isOverByViva = true;
                endCandidacy(c, result, month);
                break;
        }
        return result;
    }

    private void forgetViva(Deposit d) {
        for (int i = vivas.size() - 1; i >= 0; i--) {
            if (vivas.get(i) == d.viva) {
                vivas.remove(i);
                break;
            }
        }
        d.viva = null;
    }

    // Soundness

    private boolean isSoundFor(Candidate c) {
        Deposit d = c.thesis.standing;
        boolean isExaminedWell = d == null || !c.team.hasKnown(d.one) && !c.team.hasKnown(d.other);
        boolean hasEnded = !c.isOver() || c.outcome != NONE;
        return isExaminedWell && hasEnded && c.clock.halves == c.clock.reckon(month) && c.money == paidTo(c);
    }

    private int paidTo(Candidate c) {
        int sum = 0;
        for (int i = 0; i < grants.size(); i++) {
            Grant g = grants.get(i);
            if (g.candidate == c.number) {
                sum += g.amount * (g.months - g.left);
            }
        }
        return sum;
    }

    // What the house keeps

    private static final class Regulation {
        final int least;
        final int most;
        final int upgrade;
        final int minor;
        final int major;
        final int years;
        final boolean countsLeave;

        Regulation(int least, int most, int upgrade, int minor, int major, int years, boolean countsLeave) {
            this.least = least;
            this.most = most;
            this.upgrade = upgrade;
            this.minor = minor;
            this.major = major;
            this.years = years;
            this.countsLeave = countsLeave;
        }
    }

    private static final class Member {
        final int house;
        final int limit;

        Member(int house, int limit) {
            this.house = house;
            this.limit = limit;
        }
    }

    private static final class Tie {
        final int one;
        final int other;
        final char kind;
        final int month;

        Tie(int one, int other, char kind, int month) {
            this.one = one;
            this.other = other;
            this.kind = kind;
            this.month = month;
        }

        int partnerOf(int member) {
            if (member == one) {
                return other;
            }
            return member == other ? one : NOBODY;
        }
    }

    private static final class Grant {
        final int candidate;
        final int amount;
        final int months;
        final int from;
        int left;

        Grant(int candidate, int amount, int months, int from) {
            this.candidate = candidate;
            this.amount = amount;
            this.months = months;
            this.from = from;
            this.left = months;
        }
    }

    private static final class Candidate {
        final int number;
        final int entered;
        final boolean needsEthics;
        final Clock clock;
        final Team team = new Team();
        final Thesis thesis = new Thesis();
        char state = ACTIVE;
        char outcome = NONE;
        int endedIn = NEVER;
        int kin = 0;
        int money = 0;
        int papers = 0;
        boolean hasEthics = false;
        boolean isUpgraded = false;
        boolean hasFailedUpgrade = false;
        final char[] grounds = new char[MOST_GROUNDS];
        int groundCount = 0;

        Candidate(int number, int entered, boolean needsEthics, Clock clock) {
            this.number = number;
            this.entered = entered;
            this.needsEthics = needsEthics;
            this.clock = clock;
        }

        boolean isOver() {
            return state == OVER;
        }

        boolean isKin(int member) {
            return (kin >> member & 1) == 1;
        }

        boolean lacksEthics() {
            return needsEthics && !hasEthics;
        }
    }

    private static final class Clock {
        char mode;
        int regulationNumber;
        Regulation regulation;
        boolean wasMoved = false;
        char pauseKind = NONE;
        int pausedIn = NEVER;
        int pauses = 0;
        int extensions = 0;
        int extraMonths = 0;
        int halves = 0;
        final ArrayList<Stretch> stretches = new ArrayList<Stretch>();

        Clock(char mode, int regulationNumber, Regulation regulation) {
            this.mode = mode;
            this.regulationNumber = regulationNumber;
            this.regulation = regulation;
        }

        int limitHalves() {
            return 2 * (regulation.most + extraMonths);
        }

        boolean isAtLimit() {
            return halves >= limitHalves();
        }

        int monthsToLimit(int pace) {
            int missing = limitHalves() - halves;
            return pace == 2 ? (missing + 1) / 2 : missing;
        }

        // One stretch a month at most: what is told later in a month holds for all of it.
        void note(int from, int pace) {
            int last = stretches.size() - 1;
            if (last >= 0 && stretches.get(last).from == from) {
                stretches.get(last).pace = pace;
            } else if (last < 0 || stretches.get(last).pace != pace) {
                stretches.add(new Stretch(from, pace));
            }
        }

        int reckon(int now) {
            int sum = 0;
            int until = now;
            for (int i = stretches.size() - 1; i >= 0; i--) {
                Stretch s = stretches.get(i);
                sum += s.pace * (until - s.from);
                until = s.from;
            }
            return sum;
        }
    }

    private static final class Stretch {
        final int from;
        int pace;

        Stretch(int from, int pace) {
            this.from = from;
            this.pace = pace;
        }
    }

    private static final class Team {
        int first = NOBODY;
        int second = NOBODY;
        int third = NOBODY;
        int known = 0;

        boolean has(int member) {
            return first == member || hasFurther(member);
        }

        boolean hasFurther(int member) {
            return second == member || third == member;
        }

        boolean hasKnown(int member) {
            return member != NOBODY && (known >> member & 1) == 1;
        }

        boolean isFull() {
            return third != NOBODY;
        }

        int countFurther() {
            return (second == NOBODY ? 0 : 1) + (third == NOBODY ? 0 : 1);
        }

        int at(int index) {
            switch (index) {
                case 0:
                    return first;
                case 1:
                    return second;
                case 2:
                    return third;
                default:
                    return NOBODY;
            }
        }

        void admit(int member, boolean isFirst) {
            if (isFirst) {
                first = member;
            } else if (second == NOBODY) {
                second = member;
            } else {
                third = member;
            }
            known |= 1 << member;
        }

        void dismiss(int member) {
            if (second == member) {
                second = third;
            }
            third = NOBODY;
        }
    }

    private static final class Thesis {
        int deposits = 0;
        Deposit standing = null;
        boolean wasReferred = false;
        boolean isAwardOpen = false;
        boolean isOverByViva = false;
        boolean hasAppealed = false;

        Viva heldViva() {
            return standing == null ? null : standing.viva;
        }
    }

    private static final class Deposit {
        final int likeness;
        boolean isCleared = false;
        int one = NOBODY;
        int other = NOBODY;
        Viva viva = null;

        Deposit(int likeness) {
            this.likeness = likeness;
        }

        boolean lacksClearing() {
            return likeness > LIKENESS_TO_CLEAR && !isCleared;
        }
    }

    private static final class Viva {
        final int candidate;
        final int month;
        final int one;
        final int other;
        boolean isSplit = false;
        boolean isMajor = false;
        int due = NEVER;
        int signer = NOBODY;

        Viva(int candidate, int month, int one, int other) {
            this.candidate = candidate;
            this.month = month;
            this.one = one;
            this.other = other;
        }

        boolean isExaminer(int member) {
            return one == member || other == member;
        }
    }
}
