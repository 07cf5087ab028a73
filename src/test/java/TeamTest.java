/** Promises 19 to 22: supervisors and their loads. */
public final class TeamTest {
    private static final Class<?> INDEX = IndexOutOfBoundsException.class;
    private static final Class<?> UNSUPPORTED = UnsupportedOperationException.class;
    private static final Class<?> NO_SUCH = java.util.NoSuchElementException.class;
    private static final Check CHECK = new Check("TeamTest");

    private TeamTest() {
    }

    public static void main(String[] args) {
        supervise();
        superviseRefuses();
        kinOfWhoStays();
        examinersOfADeposit();
        loadsAboveTheLimit();
        release();
        supervisor();
        load();
        CHECK.end();
    }

    private static void supervise() {
        Vivahouse x = Houses.entered();
        CHECK.same("as the first one", x.supervise(0, 0, true), 60);
        CHECK.same("as a further one", x.supervise(0, 1, false), 20);
        CHECK.same("in the first one's place", x.supervise(0, 2, true), 60);
        CHECK.same("the first one", x.supervisor(0, 0), 2);
        CHECK.same("the load of the one before", x.load(0), 0);
        CHECK.same("who did stays known", x.barred(0, 0), 's');
        CHECK.same("the one before as a further one", x.supervise(0, 0, false), 20);
        CHECK.refuses("a third further one", UNSUPPORTED, x, () -> x.supervise(0, 3, false));
        CHECK.same("a first one beside two further ones", x.supervise(0, 3, true), 60);
        x.candidate('h', false);
        CHECK.same("half time, first one", x.supervise(1, 3, true), 90);
        CHECK.same("half time, further one", x.supervise(1, 0, false), 30);
        x.pause(1, 's');
        CHECK.same("a paused one", x.supervise(1, 1, false), 30);
    }

    private static void superviseRefuses() {
        Vivahouse x = Houses.supervised();
        x.supervise(0, 1, false);
        CHECK.refuses("no such candidate", INDEX, x, () -> x.supervise(1, 2, true));
        CHECK.refuses("no such member", INDEX, x, () -> x.supervise(0, 8, true));
        CHECK.refuses("member below 0", INDEX, x, () -> x.supervise(0, -1, false));
        CHECK.refuses("of another house", UNSUPPORTED, x, () -> x.supervise(0, 4, false));
        CHECK.refuses("of another house, as first", UNSUPPORTED, x, () -> x.supervise(0, 7, true));
        CHECK.refuses("the first one as a further one", UNSUPPORTED, x, () -> x.supervise(0, 0, false));
        CHECK.refuses("the first one again", UNSUPPORTED, x, () -> x.supervise(0, 0, true));
        CHECK.refuses("a further one as the first one", UNSUPPORTED, x, () -> x.supervise(0, 1, true));
        x.kin(0, 2);
        CHECK.refuses("kin of the candidate", UNSUPPORTED, x, () -> x.supervise(0, 2, false));
        CHECK.refuses("kin of the candidate, as first", UNSUPPORTED, x, () -> x.supervise(0, 2, true));
        Vivahouse over = Houses.over();
        CHECK.refuses("one who is over", UNSUPPORTED, over, () -> over.supervise(0, 3, false));
    }

    private static void kinOfWhoStays() {
        Vivahouse x = Houses.supervised();
        x.tie(2, 0, 'k');
        x.tie(3, 0, 'p');
        x.tie(3, 0, 'm');
        x.tie(1, 4, 'k');
        CHECK.refuses("kin of the first one", UNSUPPORTED, x, () -> x.supervise(0, 2, false));
        CHECK.same("kin of the one who leaves", x.supervise(0, 2, true), 60);
        CHECK.refuses("the other way round", UNSUPPORTED, x, () -> x.supervise(0, 0, false));
        CHECK.same("in turn", x.supervise(0, 0, true), 60);
        CHECK.same("other ties do not matter", x.supervise(0, 3, false), 20);
        CHECK.same("nor kin of others", x.supervise(0, 1, false), 20);
        Vivahouse y = Houses.supervised();
        y.supervise(0, 1, false);
        y.tie(1, 2, 'k');
        y.pass(1);
        CHECK.refuses("kin of a further one, as first", UNSUPPORTED, y, () -> y.supervise(0, 2, true));
        CHECK.refuses("kin of a further one", UNSUPPORTED, y, () -> y.supervise(0, 2, false));
        y.release(0, 1);
        CHECK.same("kin of one who was released", y.supervise(0, 2, false), 20);
        Vivahouse z = Houses.plain();
        z.regulation(6, 12, 6, 2, 3, 0, true);
        z.candidate('f', false);
        z.supervise(0, 0, false);
        z.supervise(0, 1, false);
        z.tie(3, 1, 'k');
        CHECK.refuses("kin of the last one", UNSUPPORTED, z, () -> z.supervise(0, 3, true));
        CHECK.same("a candidate without a first one", z.supervise(0, 2, true), 60);
    }

    private static void examinersOfADeposit() {
        Vivahouse x = Houses.examined();
        CHECK.refuses("an examiner", UNSUPPORTED, x, () -> x.supervise(0, 1, false));
        CHECK.refuses("an examiner, as first", UNSUPPORTED, x, () -> x.supervise(0, 1, true));
        x.examiners(0, 2, 5);
        CHECK.same("no examiner any more", x.supervise(0, 1, false), 20);
        x.viva(0, 'r', 'r');
        CHECK.same("an examiner of one that stands no more", x.supervise(0, 2, false), 20);
        Vivahouse other = Houses.examined();
        other.candidate('f', false);
        CHECK.same("an examiner of another's deposit", other.supervise(1, 1, true), 60);
    }

    private static void loadsAboveTheLimit() {
        Vivahouse x = new Vivahouse();
        x.regulation(6, 12, 6, 2, 3, 3, true);
        x.member(0, 80);
        x.member(0, 59);
        x.member(0, 19);
        x.candidate('f', false);
        x.candidate('f', false);
        x.candidate('h', false);
        CHECK.refuses("first one below 60", UNSUPPORTED, x, () -> x.supervise(0, 1, true));
        CHECK.refuses("further one below 20", UNSUPPORTED, x, () -> x.supervise(0, 2, false));
        CHECK.same("further one of half time", x.supervise(2, 2, false), 10);
        CHECK.same("within it", x.supervise(0, 0, true), 60);
        CHECK.same("up to it", x.supervise(1, 0, false), 80);
        CHECK.refuses("above it", UNSUPPORTED, x, () -> x.supervise(2, 0, false));
        x.mode(0, 'h');
        CHECK.same("room by half time", x.supervise(2, 0, true), 80);
        x.mode(0, 'f');
        CHECK.same("it may be above later", x.load(0), 110);
        CHECK.refuses("above it then", UNSUPPORTED, x, () -> x.supervise(2, 0, false));
    }

    private static void release() {
        Vivahouse x = Houses.supervised();
        x.supervise(0, 1, false);
        x.supervise(0, 2, false);
        CHECK.refuses("no such candidate", INDEX, x, () -> x.release(1, 1));
        CHECK.refuses("no such member", INDEX, x, () -> x.release(0, 8));
        CHECK.refuses("member below 0", INDEX, x, () -> x.release(0, -1));
        CHECK.refuses("the first one", UNSUPPORTED, x, () -> x.release(0, 0));
        CHECK.refuses("one who supervises nobody", UNSUPPORTED, x, () -> x.release(0, 3));
        CHECK.same("the first further one", x.release(0, 1), 1);
        CHECK.same("the other one moves up", x.supervisor(0, 1), 2);
        CHECK.refuses("again", UNSUPPORTED, x, () -> x.release(0, 1));
        CHECK.same("its load", x.load(1), 0);
        CHECK.same("who did stays known", x.barred(0, 1), 's');
        CHECK.same("one more", x.supervise(0, 1, false), 20);
        CHECK.same("behind the other one", x.supervisor(0, 2), 1);
        CHECK.same("the last further one", x.release(0, 1), 1);
        CHECK.same("and the other one", x.release(0, 2), 0);
        Vivahouse over = Houses.supervised();
        over.supervise(0, 3, false);
        over.pass(6);
        CHECK.refuses("one who is over", UNSUPPORTED, over, () -> over.release(0, 3));
    }

    private static void supervisor() {
        Vivahouse x = Houses.entered();
        CHECK.refuses("no such candidate", INDEX, x, () -> x.supervisor(1, 0));
        CHECK.refuses("none yet", NO_SUCH, x, () -> x.supervisor(0, 0));
        x.supervise(0, 3, false);
        CHECK.refuses("without a first one there is no 0", NO_SUCH, x, () -> x.supervisor(0, 0));
        CHECK.same("the further one is 1", x.supervisor(0, 1), 3);
        CHECK.refuses("there is no 2", NO_SUCH, x, () -> x.supervisor(0, 2));
        x.supervise(0, 0, true);
        x.supervise(0, 1, false);
        CHECK.same("the first one", x.supervisor(0, 0), 0);
        CHECK.same("as they were given", x.supervisor(0, 1), 3);
        CHECK.same("and the last one", x.supervisor(0, 2), 1);
        CHECK.refuses("there is no 3", NO_SUCH, x, () -> x.supervisor(0, 3));
        CHECK.refuses("there is no -1", NO_SUCH, x, () -> x.supervisor(0, -1));
        CHECK.refuses("nor is there of nobody", INDEX, x, () -> x.supervisor(-1, -1));
    }

    private static void load() {
        Vivahouse x = Houses.supervised();
        x.candidate('h', false);
        x.supervise(1, 0, false);
        CHECK.refuses("no such member", INDEX, x, () -> x.load(8));
        CHECK.refuses("member below 0", INDEX, x, () -> x.load(-1));
        CHECK.same("over all candidates", x.load(0), 70);
        x.pause(0, 'w');
        CHECK.same("paused ones too", x.load(0), 70);
        x.mode(1, 'f');
        CHECK.same("by the mode of now", x.load(0), 80);
        x.resume(0);
        x.pause(1, 'w');
        x.pass(6);
        CHECK.same("not who is over", x.load(0), 20);
        CHECK.same("of another house", x.load(7), 0);
        Vivahouse appealed = Houses.after('f', 'f');
        CHECK.same("over by a viva", appealed.load(0), 0);
        appealed.appeal(0, true);
        CHECK.same("active again", appealed.load(0), 60);
    }
}
