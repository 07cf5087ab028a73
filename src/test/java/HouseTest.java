/** Promises 1 to 6: a new object, regulations, members, ties, kin and candidates. */
public final class HouseTest {
    private static final Class<?> INDEX = IndexOutOfBoundsException.class;
    private static final Class<?> ARGUMENT = IllegalArgumentException.class;
    private static final Class<?> STATE = IllegalStateException.class;
    private static final Class<?> UNSUPPORTED = UnsupportedOperationException.class;
    private static final Check CHECK = new Check("HouseTest");

    private HouseTest() {
    }

    public static void main(String[] args) {
        newObject();
        regulation();
        member();
        tie();
        kin();
        candidate();
        CHECK.end();
    }

    private static void newObject() {
        Vivahouse x = new Vivahouse();
        CHECK.same("month of a new house", x.month(), 0);
        CHECK.same("withdrawn of a new house", x.withdrawn(), 0);
        CHECK.same("checksum of a new house", x.checksum(), 7L);
        CHECK.same("isSound of a new house", x.isSound(), true);
        CHECK.refuses("load without members", INDEX, x, () -> x.load(0));
        CHECK.refuses("clock without candidates", INDEX, x, () -> x.clock(0));
        CHECK.refuses("left without grants", INDEX, x, () -> x.left(0));
        CHECK.refuses("candidate without regulations", UNSUPPORTED, x, () -> x.candidate('f', false));
        Vivahouse other = Houses.entered();
        CHECK.same("a house of its own", x.checksum() == other.checksum(), false);
    }

    private static void regulation() {
        Vivahouse x = new Vivahouse();
        CHECK.refuses("least 5", ARGUMENT, x, () -> x.regulation(5, 12, 6, 2, 3, 3, true));
        CHECK.refuses("least 121", ARGUMENT, x, () -> x.regulation(121, 121, 6, 2, 3, 3, true));
        CHECK.refuses("most 121", ARGUMENT, x, () -> x.regulation(6, 121, 6, 2, 3, 3, true));
        CHECK.refuses("most below least", ARGUMENT, x, () -> x.regulation(12, 11, 6, 2, 3, 3, true));
        CHECK.refuses("upgrade 0", ARGUMENT, x, () -> x.regulation(6, 12, 0, 2, 3, 3, true));
        CHECK.refuses("upgrade 61", ARGUMENT, x, () -> x.regulation(6, 12, 61, 2, 3, 3, true));
        CHECK.refuses("minor 0", ARGUMENT, x, () -> x.regulation(6, 12, 6, 0, 3, 3, true));
        CHECK.refuses("minor 25", ARGUMENT, x, () -> x.regulation(6, 12, 6, 25, 3, 3, true));
        CHECK.refuses("major 0", ARGUMENT, x, () -> x.regulation(6, 12, 6, 2, 0, 3, true));
        CHECK.refuses("major 25", ARGUMENT, x, () -> x.regulation(6, 12, 6, 2, 25, 3, true));
        CHECK.refuses("years -1", ARGUMENT, x, () -> x.regulation(6, 12, 6, 2, 3, -1, true));
        CHECK.refuses("years 11", ARGUMENT, x, () -> x.regulation(6, 12, 6, 2, 3, 11, true));
        CHECK.same("the least of all", x.regulation(6, 6, 1, 1, 1, 0, false), 0);
        CHECK.same("the most of all", x.regulation(120, 120, 60, 24, 24, 10, true), 1);
        CHECK.same("major may be less than minor", x.regulation(6, 8, 60, 9, 1, 0, true), 2);
        x.regulation(6, 12, 6, 2, 3, 3, true);
        CHECK.same("a fifth one", x.regulation(6, 12, 6, 2, 3, 3, true), 4);
        CHECK.refuses("a sixth one", STATE, x, () -> x.regulation(6, 12, 6, 2, 3, 3, true));
        CHECK.refuses("a sixth one out of range", ARGUMENT, x, () -> x.regulation(5, 12, 6, 2, 3, 3, true));
    }

    private static void member() {
        Vivahouse x = new Vivahouse();
        CHECK.refuses("house -1", ARGUMENT, x, () -> x.member(-1, 10));
        CHECK.refuses("house 6", ARGUMENT, x, () -> x.member(6, 10));
        CHECK.refuses("limit -1", ARGUMENT, x, () -> x.member(0, -1));
        CHECK.refuses("limit 401", ARGUMENT, x, () -> x.member(0, 401));
        CHECK.same("a first one", x.member(0, 0), 0);
        CHECK.same("a second one", x.member(5, 400), 1);
        for (int i = 2; i < 15; i++) {
            CHECK.same("one more", x.member(1, 1), i);
        }
        CHECK.same("the sixteenth", x.member(1, 1), 15);
        CHECK.refuses("a seventeenth", STATE, x, () -> x.member(1, 1));
        CHECK.refuses("a seventeenth out of range", ARGUMENT, x, () -> x.member(1, 401));
    }

    private static void tie() {
        Vivahouse x = Houses.plain();
        CHECK.refuses("no such one", INDEX, x, () -> x.tie(8, 0, 'p'));
        CHECK.refuses("no such other", INDEX, x, () -> x.tie(0, 8, '?'));
        CHECK.refuses("one below 0", INDEX, x, () -> x.tie(-1, -1, 'p'));
        CHECK.refuses("both the same", ARGUMENT, x, () -> x.tie(3, 3, 'p'));
        CHECK.refuses("no such kind", ARGUMENT, x, () -> x.tie(0, 1, 'q'));
        CHECK.same("a paper", x.tie(0, 1, 'p'), 1);
        CHECK.same("money", x.tie(1, 0, 'm'), 2);
        CHECK.same("kin", x.tie(7, 6, 'k'), 3);
        CHECK.same("told again", x.tie(0, 1, 'p'), 4);
        for (int i = 5; i <= 30; i++) {
            CHECK.same("one more", x.tie(2, 3, 'm'), i);
        }
        CHECK.refuses("a tie too many", STATE, x, () -> x.tie(0, 1, 'p'));
        CHECK.refuses("a tie too many of no kind", ARGUMENT, x, () -> x.tie(0, 1, 'P'));
        CHECK.refuses("a tie too many of nobody", INDEX, x, () -> x.tie(0, 16, 'p'));
    }

    private static void kin() {
        Vivahouse x = Houses.entered();
        x.candidate('h', false);
        CHECK.refuses("no such candidate", INDEX, x, () -> x.kin(2, 0));
        CHECK.refuses("candidate below 0", INDEX, x, () -> x.kin(-1, 0));
        CHECK.refuses("no such member", INDEX, x, () -> x.kin(0, 8));
        CHECK.refuses("member below 0", INDEX, x, () -> x.kin(0, -1));
        CHECK.same("a first one", x.kin(0, 7), 1);
        CHECK.same("a second one", x.kin(0, 0), 2);
        CHECK.refuses("told again", UNSUPPORTED, x, () -> x.kin(0, 7));
        CHECK.same("of another candidate", x.kin(1, 7), 1);
        CHECK.same("kin are barred", x.barred(0, 7), 'k');
        Vivahouse over = Houses.over();
        CHECK.same("one who is over has kin too", over.kin(0, 3), 1);
    }

    private static void candidate() {
        Vivahouse x = new Vivahouse();
        CHECK.refuses("no such mode, no regulation", ARGUMENT, x, () -> x.candidate('x', false));
        CHECK.refuses("no regulation", UNSUPPORTED, x, () -> x.candidate('h', true));
        x.regulation(6, 10, 6, 2, 3, 3, true);
        CHECK.same("a first one", x.candidate('f', true), 0);
        x.regulation(6, 20, 6, 2, 3, 3, true);
        CHECK.same("a second one", x.candidate('h', false), 1);
        CHECK.same("the first one keeps its regulation", x.limit(0), 20);
        CHECK.same("the newest one holds for who enters then", x.limit(1), 40);
        CHECK.same("state", x.state(0), 'a');
        CHECK.same("outcome", x.outcome(0), '-');
        CHECK.same("clock", x.clock(0), 0);
        CHECK.same("money", x.money(0), 0);
        for (int i = 2; i < 12; i++) {
            CHECK.same("one more", x.candidate('f', false), i);
        }
        CHECK.refuses("one too many", STATE, x, () -> x.candidate('f', false));
        CHECK.refuses("one too many of no mode", ARGUMENT, x, () -> x.candidate('p', false));
    }
}
