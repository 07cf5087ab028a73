import java.util.ArrayList;
import java.util.List;

/** All that can be seen of a house without changing it. */
final class View {
    private View() {
    }

    static List<String> of(Vivahouse x) {
        List<String> seen = new ArrayList<>();
        add(seen, "month", () -> x.month());
        add(seen, "withdrawn", () -> x.withdrawn());
        add(seen, "checksum", () -> x.checksum());
        add(seen, "meanClock", () -> x.meanClock());
        add(seen, "awardShare", () -> x.awardShare(0, 600));
        add(seen, "isSound", () -> x.isSound());
        for (int i = 0; i < 16; i++) {
            int member = i;
            add(seen, "load " + i, () -> x.load(member));
        }
        for (int i = 0; i < 20; i++) {
            int grant = i;
            add(seen, "left " + i, () -> x.left(grant));
        }
        for (int i = 0; i < 12; i++) {
            addCandidate(seen, x, i);
        }
        return seen;
    }

    private static void addCandidate(List<String> seen, Vivahouse x, int c) {
        add(seen, "clock " + c, () -> x.clock(c));
        add(seen, "limit " + c, () -> x.limit(c));
        add(seen, "reaches " + c, () -> x.reaches(c));
        add(seen, "state " + c, () -> x.state(c));
        add(seen, "outcome " + c, () -> x.outcome(c));
        add(seen, "money " + c, () -> x.money(c));
        add(seen, "gap " + c, () -> x.gap(c));
        add(seen, "due " + c, () -> x.due(c));
        add(seen, "papers " + c, () -> x.papers(c));
        for (int i = 0; i < 3; i++) {
            int index = i;
            add(seen, "supervisor " + c + " " + i, () -> x.supervisor(c, index));
        }
        for (int i = 0; i < 5; i++) {
            int depth = i;
            add(seen, "reason " + c + " " + i, () -> x.reason(c, depth));
        }
        for (int i = 0; i < 16; i++) {
            int member = i;
            add(seen, "barred " + c + " " + i, () -> x.barred(c, member));
        }
    }

    private static void add(List<String> seen, String what, Check.Call call) {
        seen.add(what + " = " + Check.outcomeOf(call));
    }
}
