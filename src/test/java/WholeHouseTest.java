import java.lang.reflect.Field;
import java.util.List;

/** Promises 45 to 48: what is told of the whole house. */
public final class WholeHouseTest {
    private static final Class<?> ARITHMETIC = ArithmeticException.class;
    private static final Check CHECK = new Check("WholeHouseTest");

    private WholeHouseTest() {
    }

    public static void main(String[] args) throws ReflectiveOperationException {
        checksum();
        awardShare();
        meanClock();
        isSound();
        isSoundToTheLastMonth();
        isSoundWhenOver();
        unsoundHouses();
        CHECK.end();
    }

    private static void checksum() {
        Vivahouse x = Houses.plain();
        CHECK.same("without candidates", x.checksum(), 7L);
        x.candidate('f', false);
        x.grant(0, 40, 3, 0);
        long fresh = ((7L * 31) * 31) * 31 + 'a' + '-';
        CHECK.same("a fresh candidate", x.checksum(), fresh);
        x.pass(2);
        long later = ((7L * 31 + 4) * 31 + 80) * 31 + 'a' + '-';
        CHECK.same("two months later", x.checksum(), later);
        x.candidate('h', false);
        x.pause(1, 's');
        long both = ((later * 31) * 31) * 31 + 'p' + '-';
        CHECK.same("a second one", x.checksum(), both);
        x.pass(4);
        long ended = ((7L * 31 + 12) * 31 + 120) * 31 + 'o' + 'n';
        CHECK.same("the first one is over", x.checksum(), ((ended * 31) * 31) * 31 + 'p' + '-');
        for (int i = 2; i < 12; i++) {
            x.candidate('f', false);
        }
        long all = ((ended * 31) * 31) * 31 + 'p' + '-';
        for (int i = 2; i < 12; i++) {
            all = ((all * 31) * 31) * 31 + 'a' + '-';
        }
        CHECK.same("twelve of them, with wrap-around", x.checksum(), all);
    }

    /** Candidates 0 to 4, who entered in the months 0, 0, 2, 3 and 3; 0, 2 and 3 have the award. */
    private static Vivahouse awards() {
        Vivahouse x = Houses.plain();
        x.candidate('f', false);
        x.candidate('f', false);
        x.pass(2);
        x.candidate('f', false);
        x.pass(1);
        x.candidate('f', false);
        x.candidate('f', false);
        for (int i : new int[] {0, 2, 3}) {
            x.upgrade(i, 1, true, 2, true);
        }
        x.pass(6);
        for (int i : new int[] {0, 2, 3}) {
            x.deposit(i, 0);
            x.examiners(i, 1, 4);
            x.viva(i, 'p', 'p');
            x.award(i);
        }
        return x;
    }

    private static void awardShare() {
        Vivahouse none = Houses.plain();
        CHECK.refuses("nobody at all", ARITHMETIC, none, () -> none.awardShare(0, 600));
        Vivahouse x = awards();
        CHECK.same("of all", x.awardShare(0, 600), 3f / 5f);
        CHECK.same("of month 0", x.awardShare(0, 0), 0.5f);
        CHECK.same("up to a month", x.awardShare(0, 2), 2f / 3f);
        CHECK.same("from a month on", x.awardShare(2, 3), 2f / 3f);
        CHECK.same("of one alone", x.awardShare(2, 2), 1f);
        CHECK.same("of the last ones", x.awardShare(3, 3), 0.5f);
        CHECK.same("out of all months", x.awardShare(Integer.MIN_VALUE, Integer.MAX_VALUE), 3f / 5f);
        CHECK.refuses("of a month in which nobody entered", ARITHMETIC, x, () -> x.awardShare(1, 1));
        CHECK.refuses("the wrong way round", ARITHMETIC, x, () -> x.awardShare(3, 0));
        x.ground(0, 'q');
        x.panel(0, 2, 3, 5, 2);
        CHECK.same("without what is undone", x.awardShare(0, 0), 0f);
        CHECK.same("of three", x.awardShare(0, 2), 1f / 3f);
    }

    private static void meanClock() {
        Vivahouse none = Houses.over();
        CHECK.refuses("none with an award", ARITHMETIC, none, () -> none.meanClock());
        Vivahouse x = awards();
        CHECK.same("of those with the award", x.meanClock(), (18 + 14 + 12) / 3.0);
        x.pass(10);
        CHECK.same("their clocks stand", x.meanClock(), 44 / 3.0);
        x.ground(3, 'q');
        x.panel(3, 2, 3, 5, 3);
        CHECK.same("without what is undone", x.meanClock(), 16.0);
        x.ground(0, 'q');
        x.panel(0, 2, 3, 5, 3);
        x.ground(2, 'q');
        x.panel(2, 2, 3, 5, 3);
        CHECK.refuses("all are undone", ARITHMETIC, x, () -> x.meanClock());
    }

    private static void isSound() {
        CHECK.same("a new one", new Vivahouse().isSound(), true);
        Vivahouse x = Houses.plain();
        x.regulation(6, 20, 12, 2, 3, 3, false);
        x.candidate('h', false);
        x.grant(0, 9999, 60, 0);
        x.pass(1);
        x.mode(0, 'f');
        x.pass(1);
        x.pause(0, 'l');
        x.pass(2);
        x.move(0, 0);
        x.pass(2);
        x.mode(0, 'h');
        x.pass(1);
        x.resume(0);
        x.pause(0, 's');
        x.resume(0);
        x.pass(1);
        CHECK.same("the clock through all of it", x.clock(0), 1 + 2 + 0 + 4 + 1 + 1);
        CHECK.same("the money through all of it", x.money(0), 3 * 9999);
        CHECK.same("sound through all of it", x.isSound(), true);
        Vivahouse awards = awards();
        awards.pass(5);
        CHECK.same("sound with who is over", awards.isSound(), true);
    }

    private static void isSoundToTheLastMonth() {
        Vivahouse x = Houses.deposited();
        x.grant(0, 3, 60, 0);
        for (int i = 0; i < 9; i++) {
            x.mode(0, i % 2 == 0 ? 'h' : 'f');
            x.pass(60);
            CHECK.same("sound in " + x.month(), x.isSound(), true);
        }
        x.pass(54);
        CHECK.same("the clock in the end", x.clock(0), 12 + 5 * 60 + 4 * 120 + 54);
        CHECK.same("sound in the last month", x.isSound(), true);
    }

    private static void isSoundWhenOver() {
        Vivahouse limit = Houses.upgraded();
        limit.pass(12);
        Vivahouse upgrade = Houses.entered();
        upgrade.pass(6);
        Vivahouse corrections = Houses.after('j', 'j');
        corrections.pass(4);
        Vivahouse viva = Houses.after('f', 'f');
        Vivahouse tried = Houses.over();
        for (Vivahouse x : new Vivahouse[] {limit, upgrade, corrections, viva, tried, Houses.awarded()}) {
            CHECK.same("sound at the end by " + x.outcome(0), x.isSound(), true);
            x.pass(7);
            CHECK.same("sound after the end by " + x.outcome(0), x.isSound(), true);
        }
    }

    /** No run of calls makes a house unsound, so a fault is put inside to see that it is told. */
    private static void unsoundHouses() throws ReflectiveOperationException {
        for (int candidate = 0; candidate < 2; candidate++) {
            for (String fault : new String[] {"none", "halves", "money", "left", "one", "other", "outcome"}) {
                Vivahouse x = Houses.examined();
                x.candidate('h', false);
                x.supervise(1, 0, true);
                x.upgrade(1, 1, true, 2, true);
                x.grant(0, 5, 9, 0);
                x.grant(1, 7, 9, 0);
                x.pass(12);
                x.deposit(1, 0);
                x.examiners(1, 1, 5);
                x.viva(1, 'f', 'f');
                x.viva(0, 'f', 'f');
                putFault(x, candidate, fault);
                CHECK.same("a fault of " + fault + " of " + candidate, x.isSound(), fault.equals("none"));
            }
        }
    }

    private static void putFault(Vivahouse x, int candidate, String fault) throws ReflectiveOperationException {
        Object c = ((List<?>) valueOf(x, "candidates")).get(candidate);
        Object deposit = valueOf(valueOf(c, "thesis"), "standing");
        switch (fault) {
            case "halves": put(valueOf(c, "clock"), "halves", 1 + (int) valueOf(valueOf(c, "clock"), "halves")); break;
            case "money": put(c, "money", 1 + (int) valueOf(c, "money")); break;
            case "left": put(((List<?>) valueOf(x, "grants")).get(candidate), "left", 9); break;
            case "one": put(deposit, "one", 0); break;
            case "other": put(deposit, "other", 0); break;
            case "outcome": put(c, "outcome", '-'); break;
            default: break;
        }
    }

    private static Object valueOf(Object owner, String field) throws ReflectiveOperationException {
        return fieldOf(owner, field).get(owner);
    }

    private static void put(Object owner, String field, Object value) throws ReflectiveOperationException {
        fieldOf(owner, field).set(owner, value);
    }

    private static Field fieldOf(Object owner, String field) throws ReflectiveOperationException {
        Field f = owner.getClass().getDeclaredField(field);
        f.setAccessible(true);
        return f;
    }
}
