/** The term on exceptions: if several apply, the one that is documented first is thrown, and nothing is changed. */
public final class ExceptionsTest {
    private static final Check CHECK = new Check("ExceptionsTest");

    private ExceptionsTest() {
    }

    public static void main(String[] args) {
        theHouse();
        clocks();
        money();
        teams();
        theses();
        vivas();
        undoing();
        nothingIsChanged();
        CHECK.end();
    }

    private static void first(String what, Vivahouse house, String script) {
        Script.run(CHECK, what, house, script);
    }

    private static void theHouse() {
        first("a regulation out of range, and there are 5", new Vivahouse(), """
                5 regulation(6, 12, 6, 2, 3, 3, true); regulation(5, 12, 6, 2, 3, 3, true) throws IllegalArgument;
                regulation(6, 12, 6, 2, 3, 11, true) throws IllegalArgument;
                regulation(7, 6, 6, 2, 3, 3, true) throws IllegalArgument;
                regulation(6, 12, 6, 2, 3, 3, true) throws IllegalState
                """);
        first("a member out of range, and there are 16", new Vivahouse(), """
                16 member(0, 0); member(6, 0) throws IllegalArgument; member(0, 401) throws IllegalArgument;
                member(0, 0) throws IllegalState
                """);
        first("a tie of nobody, of no kind, and there are 30", Houses.plain(), """
                tie(8, 0, '!') throws Index; tie(0, 8, '!') throws Index; tie(8, 8, 'p') throws Index;
                tie(-1, -1, '!') throws Index; tie(0, 0, '!') throws IllegalArgument; 30 tie(0, 1, 'p');
                tie(8, 0, 'p') throws Index; tie(0, 8, 'p') throws Index; tie(8, 8, '!') throws Index;
                tie(0, 0, 'p') throws IllegalArgument; tie(0, 1, '!') throws IllegalArgument;
                tie(0, 0, '!') throws IllegalArgument; tie(0, 1, 'p') throws IllegalState
                """);
        first("kin of nobody, and was told", Houses.entered(), """
                kin(0, 0) = 1; kin(1, 0) throws Index; kin(0, 8) throws Index; kin(1, 8) throws Index;
                kin(0, 0) throws Unsupported
                """);
        first("no such mode, and there is no regulation", new Vivahouse(),
                "candidate('!', false) throws IllegalArgument; candidate('f', false) throws Unsupported");
        first("no such mode, and there are 12", Houses.plain(), """
                12 candidate('f', false); candidate('!', true) throws IllegalArgument;
                candidate('f', true) throws IllegalState
                """);
    }

    private static void clocks() {
        first("a mode of nobody, no such one, of one who is over", Houses.over(), """
                mode(1, '!') throws Index; mode(-1, 'f') throws Index; mode(0, '!') throws IllegalArgument;
                mode(0, 'f') throws Unsupported
                """);
        first("a pause of nobody, no such one, of one who is over", Houses.over(), """
                pause(1, '!') throws Index; pause(1, 's') throws Index; pause(0, '!') throws IllegalArgument;
                pause(0, 's') throws Unsupported
                """);
        first("no such pause of one who is paused", Houses.entered(), """
                pause(0, 's'); pause(0, '!') throws IllegalArgument; pause(0, 's') throws Unsupported;
                pause(1, 's') throws Index
                """);
        first("a move of nobody, to nowhere, of one who is over", Houses.over(), """
                move(1, 0) throws Index; move(1, 1) throws Index; move(0, 1) throws Index; move(0, -1) throws Index;
                move(0, 0) throws Unsupported
                """);
        first("a move to nowhere of one who was moved", Houses.entered(), """
                regulation(6, 12, 6, 2, 3, 3, true); move(0, 1); move(0, 2) throws Index;
                move(0, 1) throws Unsupported; move(0, 0) throws Unsupported
                """);
        first("an extension of nobody, out of range, of one who is over", Houses.over(), """
                extend(1, 0) throws Index; extend(1, 1) throws Index; extend(0, 0) throws IllegalArgument;
                extend(0, 13) throws IllegalArgument; extend(0, 1) throws Unsupported
                """);
        first("a fourth extension out of range", Houses.entered(), """
                3 extend(0, 1); extend(0, 0) throws IllegalArgument; extend(0, 13) throws IllegalArgument;
                extend(0, 12) throws Unsupported; extend(1, 1) throws Index
                """);
        first("months out of range, and above 600", Houses.plain(), """
                10 pass(60); pass(0) throws IllegalArgument; pass(61) throws IllegalArgument;
                pass(MAX) throws IllegalArgument; pass(MIN) throws IllegalArgument; pass(1) throws IllegalState;
                pass(60) throws IllegalState
                """);
        first("the month of nobody, and of one who is over", Houses.over(),
                "reaches(1) throws Index; reaches(0) throws NoSuch");
    }

    private static void money() {
        first("a grant of nobody, out of range, of one who is over", Houses.over(), """
                grant(1, 0, 0, -1) throws Index; grant(1, 1, 1, 0) throws Index;
                grant(0, 0, 1, 0) throws IllegalArgument; grant(0, 1, 0, 0) throws IllegalArgument;
                grant(0, 1, 1, 601) throws IllegalArgument; grant(0, 1, 1, 0) throws Unsupported
                """);
        first("of one who is over, and there are 20", Houses.over(), """
                candidate('f', false); 20 grant(1, 1, 1, 0); grant(2, 1, 1, 0) throws Index;
                grant(2, 0, 1, 0) throws Index; grant(0, 0, 1, 0) throws IllegalArgument;
                grant(1, 1, 61, 0) throws IllegalArgument; grant(0, 1, 1, 0) throws Unsupported;
                grant(1, 1, 1, 0) throws IllegalState
                """);
    }

    private static void teams() {
        first("nobody, and one who is over", Houses.over(), """
                supervise(1, 1, true) throws Index; supervise(0, 8, true) throws Index;
                supervise(0, -1, false) throws Index; supervise(0, 1, true) throws Unsupported;
                release(1, 0) throws Index; release(0, 8) throws Index; release(0, 0) throws Unsupported
                """);
        first("several reasons are one exception", Houses.supervised(), """
                supervise(0, 1, false); supervise(0, 2, false); kin(0, 3); supervise(0, 3, false) throws Unsupported;
                member(5, 0); tie(8, 0, 'k'); supervise(0, 8, false) throws Unsupported;
                supervise(0, 9, false) throws Index
                """);
        first("nobody's supervisor, and none", Houses.entered(),
                "supervisor(1, 0) throws Index; supervisor(0, 0) throws NoSuch");
        first("the upgrade by nobody, and of one who is over", Houses.over(), """
                upgrade(1, 1, true, 2, true) throws Index; upgrade(0, 8, true, 2, true) throws Index;
                upgrade(0, 1, true, 8, true) throws Index; upgrade(0, 8, true, 8, true) throws Index;
                upgrade(0, 1, true, 2, true) throws Unsupported
                """);
    }

    private static void theses() {
        first("a deposit of nobody, out of range, not upgraded", Houses.entered(), """
                deposit(1, 101) throws Index; deposit(1, 0) throws Index; deposit(0, 101) throws IllegalArgument;
                deposit(0, -1) throws IllegalArgument; deposit(0, 0) throws Unsupported
                """);
        first("out of range of one who is over", Houses.over(),
                "deposit(0, 101) throws IllegalArgument; deposit(0, 100) throws Unsupported");
        first("out of range while one stands", Houses.deposited(), """
                deposit(0, 101) throws IllegalArgument; pause(0, 's'); deposit(0, -1) throws IllegalArgument;
                deposit(0, 0) throws Unsupported
                """);
        first("cleared by nobody, and none stands", Houses.entered(), """
                clear(1, 0) throws Index; clear(0, 8) throws Index; clear(0, -1) throws Index;
                clear(0, 0) throws Unsupported
                """);
        first("examined by nobody, and none stands", Houses.entered(), """
                examiners(1, 1, 4) throws Index; examiners(0, 8, 4) throws Index; examiners(0, 1, 8) throws Index;
                examiners(0, 8, 8) throws Index; examiners(0, 4, 8) throws Index;
                examiners(0, 1, 4) throws Unsupported
                """);
    }

    private static void vivas() {
        first("a viva of nobody, without such a letter, without examiners", Houses.deposited(), """
                viva(1, '!', '!') throws Index; viva(1, 'p', 'p') throws Index;
                viva(0, '!', 'p') throws IllegalArgument; viva(0, 'p', '!') throws IllegalArgument;
                viva(0, '?', '?') throws IllegalArgument; viva(0, 'p', 'p') throws Unsupported
                """);
        first("without such a letter, and there was one", Houses.after('p', 'f'), """
                viva(0, 'x', 'p') throws IllegalArgument; viva(0, 'p', 'x') throws IllegalArgument;
                viva(0, 'p', 'f') throws Unsupported
                """);
        first("adjudged for nobody, by nobody, without such a letter, none is split", Houses.examined(), """
                adjudicate(1, 8, '!') throws Index; adjudicate(1, 5, 'p') throws Index;
                adjudicate(0, 8, '!') throws Index; adjudicate(0, 8, 'p') throws Index;
                adjudicate(0, 5, '!') throws IllegalArgument; adjudicate(0, 5, '?') throws IllegalArgument;
                adjudicate(0, 5, 'p') throws Unsupported
                """);
        first("without such a letter by one who may not", Houses.after('p', 'f'), """
                kin(0, 5); adjudicate(0, 1, '!') throws IllegalArgument; adjudicate(0, 4, '!') throws IllegalArgument;
                adjudicate(0, 5, '!') throws IllegalArgument; adjudicate(0, 1, 'p') throws Unsupported;
                adjudicate(0, 4, 'p') throws Unsupported; adjudicate(0, 5, 'p') throws Unsupported
                """);
        first("due of nobody, and none are", Houses.examined(), "due(1) throws Index; due(0) throws NoSuch");
        first("signed by nobody, and none are due", Houses.examined(), """
                sign(1, 1) throws Index; sign(0, 8) throws Index; sign(1, 8) throws Index;
                sign(0, 1) throws Unsupported
                """);
        first("an award and an appeal of nobody", Houses.over(), """
                award(1) throws Index; award(0) throws Unsupported; appeal(1, true) throws Index;
                appeal(0, true) throws Unsupported
                """);
    }

    private static void undoing() {
        first("a ground against nobody, no such one, without an award", Houses.over(), """
                ground(1, '!') throws Index; ground(1, 'q') throws Index; ground(0, '!') throws IllegalArgument;
                ground(0, 'q') throws Unsupported
                """);
        first("no such ground, and there are 5", Houses.awarded(), """
                5 ground(0, 'q'); ground(0, 'p') throws IllegalArgument; ground(0, 'z') throws Unsupported;
                ground(1, 'z') throws Index
                """);
        first("no such ground, and the degree is undone", Houses.awarded(), """
                ground(0, 'q'); panel(0, 2, 3, 5, 2); ground(0, 'p') throws IllegalArgument;
                ground(0, 'q') throws Unsupported
                """);
        first("the reason of nobody, and none", Houses.entered(),
                "reason(1, -1) throws Index; reason(0, -1) throws NoSuch");
        first("a panel of nobody, votes out of range, no ground", Houses.awarded(), """
                panel(1, 2, 3, 5, 4) throws Index; panel(0, 8, 3, 5, 4) throws Index;
                panel(0, 2, 8, 5, -1) throws Index; panel(0, 2, 3, 8, 2) throws Index;
                panel(0, 8, 8, 8, 2) throws Index; panel(0, 2, 2, 8, 2) throws Index;
                panel(0, 2, 3, 5, 4) throws IllegalArgument; panel(0, 2, 3, 5, -1) throws IllegalArgument;
                panel(0, 2, 3, 5, 2) throws Unsupported
                """);
        first("votes out of range of those who may not", Houses.awarded(), """
                ground(0, 'q'); panel(0, 2, 2, 2, 4) throws IllegalArgument;
                panel(0, 0, 1, 4, 4) throws IllegalArgument; panel(0, 0, 1, 4, -1) throws IllegalArgument;
                panel(0, 0, 1, 4, 3) throws Unsupported; panel(0, 0, 1, 8, 4) throws Index
                """);
    }

    /** What was refused is not counted, told or used up. */
    private static void nothingIsChanged() {
        first("numbers go on as if it had not been told", new Vivahouse(), """
                regulation(5, 12, 6, 2, 3, 3, true) throws IllegalArgument; regulation(6, 12, 6, 2, 3, 3, true) = 0;
                member(6, 1) throws IllegalArgument; member(0, 60) = 0; member(0, 400) = 1;
                tie(0, 0, 'p') throws IllegalArgument; tie(0, 1, 'p') = 1;
                candidate('x', false) throws IllegalArgument; candidate('f', false) = 0;
                grant(0, 0, 1, 0) throws IllegalArgument; grant(0, 1, 1, 0) = 0; kin(0, 2) throws Index;
                kin(0, 1) = 1; kin(0, 1) throws Unsupported; kin(0, 0) = 2; pause(0, 'x') throws IllegalArgument;
                pause(0, 's') = 1; pause(0, 's') throws Unsupported; resume(0) = 0; pause(0, 's') = 2;
                publish(1) throws Index; publish(0) = 1
                """);
        first("a move that was refused is not the one", Houses.entered(), """
                move(0, 0) throws Unsupported; move(0, 1) throws Index; regulation(6, 20, 6, 2, 3, 3, true);
                move(0, 1) = 0
                """);
        first("extensions that were refused are none", Houses.entered(), """
                4 extend(0, 13) throws IllegalArgument; extend(0, 1) = 26; 4 extend(0, 0) throws IllegalArgument;
                2 extend(0, 1); limit(0) = 30
                """);
        first("months that were refused do not go by", Houses.entered(),
                "pass(61) throws IllegalArgument; clock(0) = 0; month() = 0");
        first("who was refused does not become known", Houses.entered(), """
                member(0, 59); supervise(0, 8, true) throws Unsupported; barred(0, 8) = '-'; load(8) = 0;
                supervisor(0, 0) throws NoSuch; supervise(0, 8, false) = 20
                """);
        first("a first one stays if the new one is refused", Houses.supervised(),
                "kin(0, 1); supervise(0, 1, true) throws Unsupported; supervisor(0, 0) = 0; load(0) = 60; load(1) = 0");
        first("examiners that were refused do not take the place of those told", Houses.examined(), """
                examiners(0, 2, 3) throws Unsupported; examiners(0, 0, 5) throws Unsupported; viva(0, 'j', 'j');
                sign(0, 2) throws Unsupported; sign(0, 1) = false; sign(0, 4) = true
                """);
        first("a viva that was refused was none", Houses.examined(), """
                viva(0, 'p', 'x') throws IllegalArgument; examiners(0, 1, 5) = 0;
                viva(0, 'x', 'p') throws IllegalArgument; viva(0, 'p', 'p') = 'p'
                """);
        first("an appeal that was refused was none", Houses.examined(), """
                appeal(0, true) throws Unsupported; viva(0, 'f', 'f'); appeal(1, true) throws Index;
                appeal(0, true) = true
                """);
        first("a panel that was refused leaves the grounds", Houses.awarded(), """
                publish(0); ground(0, 'q'); panel(0, 2, 3, 5, 4) throws IllegalArgument;
                panel(0, 0, 2, 3, 0) throws Unsupported; reason(0, 0) = 'q'; papers(0) = 1;
                panel(0, 2, 3, 5, 3) = true; withdrawn() = 1
                """);
        first("an award that was refused is not counted", Houses.after('i', 'i'), """
                award(0) throws Unsupported; sign(0, 2) throws Unsupported; sign(0, 1) = true; award(1) throws Index;
                award(0) = 1
                """);
    }
}
