/** Houses at the stages of a candidature, each made anew. */
final class Houses {
    private Houses() {
    }

    /** Members 0 to 3 are of this house, 4 to 7 of the houses 1 to 4; nobody has entered. */
    static Vivahouse plain() {
        Vivahouse x = new Vivahouse();
        x.regulation(6, 12, 6, 2, 3, 3, true);
        for (int i = 0; i < 4; i++) {
            x.member(0, 400);
        }
        for (int house = 1; house <= 4; house++) {
            x.member(house, 400);
        }
        return x;
    }

    static Vivahouse entered() {
        Vivahouse x = plain();
        x.candidate('f', false);
        return x;
    }

    static Vivahouse supervised() {
        Vivahouse x = entered();
        x.supervise(0, 0, true);
        return x;
    }

    static Vivahouse upgraded() {
        Vivahouse x = supervised();
        x.upgrade(0, 1, true, 2, true);
        return x;
    }

    /** In month 6, with a likeness that need not be cleared. */
    static Vivahouse deposited() {
        Vivahouse x = upgraded();
        x.pass(6);
        x.deposit(0, 10);
        return x;
    }

    /** The examiners are 1 and 4. */
    static Vivahouse examined() {
        Vivahouse x = deposited();
        x.examiners(0, 1, 4);
        return x;
    }

    static Vivahouse after(char one, char other) {
        Vivahouse x = examined();
        x.viva(0, one, other);
        return x;
    }

    static Vivahouse awarded() {
        Vivahouse x = after('p', 'p');
        x.award(0);
        return x;
    }

    /** Over by 'm' of the upgrade, which no appeal is against. */
    static Vivahouse over() {
        Vivahouse x = supervised();
        x.upgrade(0, 1, false, 2, false);
        x.upgrade(0, 1, true, 2, false);
        return x;
    }
}
