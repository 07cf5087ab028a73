/** Promises 23 to 26: grants, what they pay, and the gap. */
public final class MoneyTest {
    private static final Class<?> INDEX = IndexOutOfBoundsException.class;
    private static final Class<?> ARGUMENT = IllegalArgumentException.class;
    private static final Class<?> STATE = IllegalStateException.class;
    private static final Class<?> UNSUPPORTED = UnsupportedOperationException.class;
    private static final Check CHECK = new Check("MoneyTest");

    private MoneyTest() {
    }

    public static void main(String[] args) {
        grant();
        grantsAtMost();
        payments();
        paymentsInPauses();
        paymentsEnd();
        gap();
        gapInPauses();
        CHECK.end();
    }

    private static void grant() {
        Vivahouse x = Houses.entered();
        CHECK.refuses("no such candidate", INDEX, x, () -> x.grant(1, 0, 0, -1));
        CHECK.refuses("amount 0", ARGUMENT, x, () -> x.grant(0, 0, 1, 0));
        CHECK.refuses("amount 10000", ARGUMENT, x, () -> x.grant(0, 10000, 1, 0));
        CHECK.refuses("months 0", ARGUMENT, x, () -> x.grant(0, 1, 0, 0));
        CHECK.refuses("months 61", ARGUMENT, x, () -> x.grant(0, 1, 61, 0));
        CHECK.refuses("from -1", ARGUMENT, x, () -> x.grant(0, 1, 1, -1));
        CHECK.refuses("from 601", ARGUMENT, x, () -> x.grant(0, 1, 1, 601));
        CHECK.same("the least of all", x.grant(0, 1, 1, 0), 0);
        CHECK.same("the most of all", x.grant(0, 9999, 60, 600), 1);
        CHECK.same("its months", x.left(1), 60);
        CHECK.refuses("no such grant", INDEX, x, () -> x.left(2));
        CHECK.refuses("grant below 0", INDEX, x, () -> x.left(-1));
        CHECK.refuses("money of nobody", INDEX, x, () -> x.money(1));
        Vivahouse over = Houses.over();
        CHECK.refuses("one who is over", UNSUPPORTED, over, () -> over.grant(0, 1, 1, 0));
        CHECK.refuses("one who is over, out of range", ARGUMENT, over, () -> over.grant(0, 1, 1, 601));
    }

    private static void grantsAtMost() {
        Vivahouse x = Houses.over();
        x.candidate('f', false);
        x.candidate('f', false);
        for (int i = 0; i < 20; i++) {
            CHECK.same("one more", x.grant(1 + i % 2, 10, 2, 0), i);
        }
        CHECK.refuses("one too many", STATE, x, () -> x.grant(1, 10, 2, 0));
        CHECK.refuses("one too many of one who is over", UNSUPPORTED, x, () -> x.grant(0, 10, 2, 0));
        CHECK.refuses("one too many out of range", ARGUMENT, x, () -> x.grant(1, 10, 0, 0));
        x.pass(1);
        CHECK.same("all of them pay", x.money(1) + x.money(2), 200);
    }

    private static void payments() {
        Vivahouse x = Houses.entered();
        x.candidate('h', false);
        x.grant(0, 100, 2, 1);
        x.grant(0, 7, 3, 2);
        x.grant(1, 1000, 1, 0);
        x.pass(1);
        CHECK.same("ahead of its month", x.money(0), 0);
        CHECK.same("its months then", x.left(0), 2);
        CHECK.same("half time is paid whole", x.money(1), 1000);
        CHECK.same("a grant that is spent", x.left(2), 0);
        x.pass(1);
        CHECK.same("in its month", x.money(0), 100);
        CHECK.same("a month less", x.left(0), 1);
        x.pass(1);
        CHECK.same("both pay", x.money(0), 207);
        x.pass(2);
        CHECK.same("one is spent", x.money(0), 221);
        CHECK.same("as is the other", x.left(1), 0);
        x.grant(0, 5, 2, 0);
        x.pass(1);
        CHECK.same("told after its month", x.money(0), 226);
        CHECK.same("the other candidate's money", x.money(1), 1000);
        CHECK.same("soundness", x.isSound(), true);
    }

    private static void paymentsInPauses() {
        Vivahouse x = Houses.plain();
        for (int i = 0; i < 3; i++) {
            x.candidate('f', false);
            x.grant(i, 10, 6, 0);
        }
        x.pause(0, 's');
        x.pause(1, 'l');
        x.pause(2, 'w');
        x.pass(2);
        CHECK.same("sick", x.money(0), 20);
        CHECK.same("sick, months left", x.left(0), 4);
        CHECK.same("leave", x.money(1), 0);
        CHECK.same("leave, months left", x.left(1), 6);
        CHECK.same("work", x.money(2), 0);
        CHECK.same("work, months left", x.left(2), 6);
        x.resume(2);
        x.pass(1);
        CHECK.same("active again", x.money(2), 10);
        CHECK.same("soundness", x.isSound(), true);
    }

    private static void paymentsEnd() {
        Vivahouse x = Houses.entered();
        x.grant(0, 10, 60, 0);
        x.pass(6);
        CHECK.same("the month that ends it is paid", x.money(0), 60);
        x.pass(4);
        CHECK.same("one who is over is not", x.money(0), 60);
        CHECK.same("nor has the grant less", x.left(0), 54);
    }

    private static void gap() {
        Vivahouse x = Houses.entered();
        CHECK.refuses("no such candidate", INDEX, x, () -> x.gap(1));
        CHECK.same("without grants", x.gap(0), 12);
        x.grant(0, 10, 3, 2);
        CHECK.same("three months of twelve", x.gap(0), 9);
        x.grant(0, 10, 3, 4);
        CHECK.same("a month is paid twice", x.gap(0), 7);
        x.grant(0, 10, 3, 11);
        CHECK.same("beyond the limit does not count", x.gap(0), 6);
        x.grant(0, 10, 3, 12);
        CHECK.same("nor does what begins there", x.gap(0), 6);
        x.pass(3);
        CHECK.same("from now on", x.gap(0), 4);
        x.grant(0, 10, 3, 0);
        CHECK.same("one that begins now", x.gap(0), 4);
        x.grant(0, 10, 6, 0);
        CHECK.same("one that ends later", x.gap(0), 2);
        x.candidate('h', false);
        CHECK.same("grants of others do not count", x.gap(1), 24);
        x.pass(1);
        x.mode(1, 'f');
        CHECK.same("an odd half is left", x.gap(1), 12);
        Vivahouse over = Houses.over();
        CHECK.refuses("one who is over", UNSUPPORTED, over, () -> over.gap(0));
    }

    private static void gapInPauses() {
        Vivahouse x = Houses.entered();
        x.grant(0, 10, 5, 0);
        x.pause(0, 'l');
        CHECK.same("in a leave that counts nothing is paid", x.gap(0), 12);
        x.resume(0);
        x.pause(0, 'w');
        CHECK.same("the clock stands", x.gap(0), 0);
        x.resume(0);
        CHECK.same("active", x.gap(0), 7);
        Vivahouse y = Houses.deposited();
        y.pass(5);
        CHECK.same("a month ahead of the limit", y.gap(0), 1);
        y.pass(1);
        CHECK.same("the limit is there", y.gap(0), 0);
        y.pass(1);
        CHECK.same("the limit was there", y.gap(0), 0);
    }
}
