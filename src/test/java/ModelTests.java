/** Long runs of calls, most of them right and some of them wrong, answered by the program and by the model. */
public final class ModelTests {
    private static final int RUNS = 2000;
    private static final int CALLS = 512;
    private static final int[] EDGES = {-1, -2, 10, 13, 16, 30, 301, 601, Integer.MAX_VALUE, Integer.MIN_VALUE};

    private final Meeplehouse house = new Meeplehouse();
    private final Model model = new Model();
    private final boolean crowded;
    private long seed;
    private int titles;
    private int copies;
    private int groups;
    private int rules;

    private ModelTests(int run) {
        seed = run * 7919L + 17;
        crowded = run % 2 == 0;
    }

    public static void main(String[] args) {
        for (int run = 0; run < RUNS; run++) {
            Check.part("run " + run);
            ModelTests test = new ModelTests(run);
            for (int call = 0; call < CALLS; call++) {
                test.step();
            }
        }
        Check.end();
    }

    private int below(int bound) {
        seed = seed * 6364136223846793005L + 1442695040888963407L;
        return (int) ((seed >>> 33) % bound);
    }

    /** A number from the range, and now and then one that may be outside. */
    private int pick(int from, int to) {
        int kind = below(60);
        if (kind == 0) {
            return EDGES[below(EDGES.length)];
        }
        if (kind == 1) {
            return below(2) == 0 ? from - 1 : to + 1;
        }
        return to < from ? from : from + below(to - from + 1);
    }

    private void step() {
        int kind = below(100);
        if (kind < 8) {
            passOrAdd();
        } else if (kind < 16) {
            addToShelf();
        } else if (kind < 40) {
            comeAndGo();
        } else if (kind < 75) {
            play();
        } else {
            ask();
        }
    }

    private void passOrAdd() {
        if (below(3) > 0) {
            int minutes = pick(1, below(8) == 0 ? 500 : 40);
            compare("pass " + minutes, () -> house.pass(minutes), () -> model.pass(minutes));
        } else {
            int seats = pick(2, 6);
            compare("addTable " + seats, () -> house.addTable(seats), () -> model.addTable(seats));
        }
    }

    private void addToShelf() {
        int kind = below(4);
        if (kind == 0) {
            addTitle();
        } else if (kind == 1) {
            int title = pick(0, (crowded ? Math.min(titles, 2) : titles) - 1);
            copies += compare("addCopy " + title, () -> house.addCopy(title), () -> model.addCopy(title));
        } else {
            addRule();
        }
    }

    private void addTitle() {
        int[] a = {pick(1, 4), pick(4, 12), pick(5, crowded ? 60 : 300), pick(0, 9), pick(0, 9), pick(0, 4), pick(0, 1)};
        titles += compare("addTitle " + java.util.Arrays.toString(a),
            () -> house.addTitle(a[0], a[1], a[2], a[3], a[4], a[5], a[6]),
            () -> model.addTitle(a[0], a[1], a[2], a[3], a[4], a[5], a[6]));
    }

    private void addRule() {
        int title = pick(0, titles - 1);
        int parent = below(3) == 0 ? -1 : pick(0, Math.min(rules, 5));
        int test = pick(0, 3);
        int value = pick(1, test == 1 ? 300 : 6);
        int ruling = pick(0, 99);
        rules += compare("addRule " + title + " " + parent + " " + test + " " + value + " " + ruling,
            () -> house.addRule(title, parent, test, value, ruling),
            () -> model.addRule(title, parent, test, value, ruling));
    }

    private void comeAndGo() {
        int group = pick(0, groups - 1);
        if (below(12) == 0) {
            int players = pick(1, 12);
            int minutes = pick(10, 600);
            groups += compare("arrive " + players + " " + minutes,
                () -> house.arrive(players, minutes), () -> model.arrive(players, minutes));
        } else if (below(12) == 0) {
            compare("leave " + group, () -> house.leave(group), () -> model.leave(group));
        } else {
            int players = pick(1, 12);
            compare("tableOf " + group, () -> house.tableOf(group), () -> model.tableOf(group));
            compare("tablesOf " + group, () -> house.tablesOf(group), () -> model.tablesOf(group));
            compare("left " + group, () -> house.left(group), () -> model.left(group));
            compare("waiting", house::waiting, model::waiting);
            compare("waste " + players, () -> house.waste(players), () -> model.waste(players));
            compare("wasteByAll " + players, () -> house.wasteByAll(players), () -> model.waste(players));
        }
    }

    private void play() {
        int group = pick(0, groups - 1);
        int kind = pick(0, 3);
        int chance = below(7);
        if (chance < 3) {
            int title = pick(0, (crowded ? Math.min(titles, 2) : titles) - 1);
            compare("serve " + group + " " + title, () -> house.serve(group, title), () -> model.serve(group, title));
        } else if (chance < 6) {
            int lost = pick(0, below(4) == 0 ? 9 : 2);
            compare("giveBack " + group + " " + kind + " " + lost,
                () -> house.giveBack(group, kind, lost), () -> model.giveBack(group, kind, lost));
        } else {
            int copy = pick(0, copies - 1);
            int many = pick(1, below(4) == 0 ? 9 : 2);
            compare("found " + copy + " " + kind + " " + many,
                () -> house.found(copy, kind, many), () -> model.found(copy, kind, many));
        }
    }

    private void ask() {
        int group = pick(0, groups - 1);
        int copy = pick(0, copies - 1);
        int title = pick(0, titles - 1);
        int kind = pick(0, 3);
        int place = pick(0, 3);
        compare("offers " + group, () -> house.offers(group), () -> model.offers(group));
        compare("offerAt " + group + " " + place, () -> house.offerAt(group, place), () -> model.offerAt(group, place));
        compare("pieces " + copy + " " + kind, () -> house.pieces(copy, kind), () -> model.pieces(copy, kind));
        compare("stateOf " + copy, () -> house.stateOf(copy), () -> model.stateOf(copy));
        compare("lenders " + copy, () -> house.lenders(copy), () -> model.lenders(copy));
        compare("copyOf " + group, () -> house.copyOf(group), () -> model.copyOf(group));
        compare("ruling " + group, () -> house.ruling(group), () -> model.ruling(group));
        compare("rulingFromBelow " + group, () -> house.rulingFromBelow(group), () -> model.ruling(group));
        compare("depth " + title, () -> house.depth(title), () -> model.depth(title));
    }

    /** Tells 1 if the call answered, 0 if it threw. */
    private static int compare(String what, Check.Call program, Check.Call model) {
        String due = Snapshot.answer(model);
        Check.same(what, due, Snapshot.answer(program));
        return due.startsWith("I") ? 0 : 1;
    }
}
