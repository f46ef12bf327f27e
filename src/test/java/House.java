import java.util.ArrayList;
import java.util.List;

/**
 * A Meeplehouse with a journal of its calls. Nothing is promised after the 512th call, so a test that
 * makes more is itself wrong; and what a refused call changes is found by making the calls again,
 * with it and without it, on new objects.
 */
final class House {
    static final int MOST_CALLS = 512;

    interface Call {
        int on(House house);
    }

    private interface Ask {
        int of(Meeplehouse it);
    }

    private final Meeplehouse it = new Meeplehouse();
    private final List<Ask> asked = new ArrayList<>();
    private final List<Ask> answered = new ArrayList<>();

    static House withTables(int... seats) {
        House house = new House();
        for (int many : seats) {
            house.addTable(many);
        }
        return house;
    }

    static House withEqualTables(int tables, int seats) {
        House house = new House();
        for (int table = 0; table < tables; table++) {
            house.addTable(seats);
        }
        return house;
    }

    /** A table of six for each of some groups of six, all of them seated for 600 minutes. */
    static House withGroups(int groups) {
        House house = withEqualTables(groups, 6);
        for (int group = 0; group < groups; group++) {
            house.arrive(6, 600);
        }
        return house;
    }

    int calls() {
        return asked.size();
    }

    /** A new house after the same calls, those that were refused left out. */
    House againWithoutRefused() {
        return after(answered);
    }

    House again() {
        return after(asked);
    }

    private static House after(List<Ask> asks) {
        House house = new House();
        for (Ask ask : asks) {
            try {
                house.call(ask);
            } catch (RuntimeException refused) {
                continue;
            }
        }
        return house;
    }

    private int call(Ask ask) {
        if (asked.size() >= MOST_CALLS) {
            throw new AssertionError("the test calls an object more than " + MOST_CALLS + " times");
        }
        asked.add(ask);
        int answer = ask.of(it);
        answered.add(ask);
        return answer;
    }

    int pass(int minutes) {
        return call(it -> it.pass(minutes));
    }

    int now() {
        return call(Meeplehouse::now);
    }

    int addTable(int seats) {
        return call(it -> it.addTable(seats));
    }

    int addTitle(int least, int most, int minutes, int first, int second, int third, int fourth) {
        return call(it -> it.addTitle(least, most, minutes, first, second, third, fourth));
    }

    int addCopy(int title) {
        return call(it -> it.addCopy(title));
    }

    int addRule(int title, int parent, int test, int value, int ruling) {
        return call(it -> it.addRule(title, parent, test, value, ruling));
    }

    int arrive(int players, int minutes) {
        return call(it -> it.arrive(players, minutes));
    }

    int leave(int group) {
        return call(it -> it.leave(group));
    }

    int tableOf(int group) {
        return call(it -> it.tableOf(group));
    }

    int tablesOf(int group) {
        return call(it -> it.tablesOf(group));
    }

    int waiting() {
        return call(Meeplehouse::waiting);
    }

    int waste(int players) {
        return call(it -> it.waste(players));
    }

    int wasteByAll(int players) {
        return call(it -> it.wasteByAll(players));
    }

    int left(int group) {
        return call(it -> it.left(group));
    }

    int offers(int group) {
        return call(it -> it.offers(group));
    }

    int offerAt(int group, int place) {
        return call(it -> it.offerAt(group, place));
    }

    int serve(int group, int title) {
        return call(it -> it.serve(group, title));
    }

    int giveBack(int group, int kind, int lost) {
        return call(it -> it.giveBack(group, kind, lost));
    }

    int found(int copy, int kind, int many) {
        return call(it -> it.found(copy, kind, many));
    }

    int pieces(int copy, int kind) {
        return call(it -> it.pieces(copy, kind));
    }

    int stateOf(int copy) {
        return call(it -> it.stateOf(copy));
    }

    int lenders(int copy) {
        return call(it -> it.lenders(copy));
    }

    int copyOf(int group) {
        return call(it -> it.copyOf(group));
    }

    int ruling(int group) {
        return call(it -> it.ruling(group));
    }

    int rulingFromBelow(int group) {
        return call(it -> it.rulingFromBelow(group));
    }

    int depth(int title) {
        return call(it -> it.depth(title));
    }
}
