/** The document's three examples, each on a new object, in its own words. */
public final class ExamplesTest {
    private static final Check CHECK = new Check("ExamplesTest");

    private ExamplesTest() {
    }

    public static void main(String[] args) {
        Script.run(CHECK, "A candidature from the grant to the award", new Vivahouse(), """
                regulation(6, 12, 6, 2, 3, 3, true) = 0; member(0, 100) = 0; member(0, 100) = 1; member(0, 100) = 2;
                member(1, 0) = 3; member(2, 0) = 4; candidate('f', true) = 0; supervise(0, 0, true) = 60;
                load(0) = 60; grant(0, 500, 4, 2) = 0; gap(0) = 8; reaches(0) = 12; pass(3) = 3; clock(0) = 6;
                money(0) = 500; upgrade(0, 1, true, 2, true) throws UnsupportedOperationException; ethics(0) = 1;
                upgrade(0, 1, true, 2, true) = 'p'; deposit(0, 10) throws UnsupportedOperationException; pass(3) = 6;
                deposit(0, 30) = 1; examiners(0, 1, 3) throws UnsupportedOperationException; clear(0, 2) = 30;
                barred(0, 0) = 's'; examiners(0, 1, 3) = 0; viva(0, 'i', 'p') = 'i'; due(0) = 8; sign(0, 3) = true;
                award(0) = 1; outcome(0) = 'p'; publish(0) = 1; ground(0, 'q') = 1; ground(0, 'z') = 2;
                reason(0, 0) = 'z'; reason(0, 1) = 'q'; panel(0, 2, 4, 0, 2) throws UnsupportedOperationException;
                isSound() = true
                """);
        Script.run(CHECK, "Ties, a pause, a viva that is adjudged and an appeal", new Vivahouse(), """
                regulation(6, 6, 3, 1, 1, 1, false) = 0; member(0, 60) = 0; member(0, 400) = 1; member(0, 400) = 2;
                member(3, 0) = 3; member(4, 0) = 4; candidate('f', false) = 0; candidate('h', false) = 1;
                supervise(0, 0, true) = 60; supervise(1, 0, true) throws UnsupportedOperationException;
                tie(0, 3, 'm') = 1; barred(0, 3) = 't'; upgrade(0, 1, true, 2, false) = 'r';
                upgrade(0, 1, true, 2, true) = 'p'; pass(2) = 2; pause(0, 'l') = 1; pass(3) = 5; resume(0) = 3;
                clock(0) = 4; extend(0, 6) = 24; pass(4) = 9; deposit(0, 0) = 1; outcome(1) = 'n';
                examiners(0, 1, 3) throws UnsupportedOperationException; pass(3) = 12; examiners(0, 1, 3) = 0;
                viva(0, 'p', 'f') = '?'; adjudicate(0, 3, 'r') throws UnsupportedOperationException;
                adjudicate(0, 4, 'r') = 'r'; state(0) = 'a'; deposit(0, 5) = 2; examiners(0, 2, 4) = 0;
                viva(0, 'r', 'r') = 'm'; outcome(0) = 'm'; appeal(0, true) = true; viva(0, 'j', 'j') = 'j';
                sign(0, 2) = false; pass(1) = 13; outcome(0) = '-'; checksum() = 6789345096; isSound() = true
                """);
        Script.run(CHECK, "Two regulations, kin, a move and what the money reaches", new Vivahouse(), """
                regulation(12, 24, 12, 1, 2, 0, false) = 0; regulation(6, 8, 8, 1, 2, 10, true) = 1;
                member(0, 10) = 0; member(0, 400) = 1; candidate('h', false) = 0; kin(0, 1) = 1;
                supervise(0, 1, false) throws UnsupportedOperationException; supervise(0, 0, false) = 10;
                supervise(0, 0, true) throws UnsupportedOperationException; move(0, 0) = 1;
                move(0, 1) throws UnsupportedOperationException; limit(0) = 48; mode(0, 'f') = 'h';
                grant(0, 10, 3, 1) = 0; grant(0, 10, 2, 8) = 1; gap(0) = 19; pause(0, 's') = 1; pass(2) = 2;
                money(0) = 10; left(0) = 2; gap(0) = 0; reaches(0) throws NoSuchElementException; resume(0) = 2;
                pass(12) = 14; outcome(0) = 'n'; awardShare(0, 5) = 0.0; checksum() = 233372
                """);
        CHECK.end();
    }
}
