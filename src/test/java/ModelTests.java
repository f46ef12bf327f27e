/** Runs of 512 calls, most of them right and some of them wrong, answered by the program and by the model. */
public final class ModelTests {
    private static final int RUNS = 6000;
    private static final int BUILDING = 90;
    private static final int[] EDGES = {-1, -2, 10, 13, 16, 30, 301, 601, Integer.MAX_VALUE, Integer.MIN_VALUE};

    private interface Modelled {
        int run();
    }

    private final House house = new House();
    private final Model model = new Model();
    private final boolean crowded;
    private long seed;
    private int titles;
    private int copies;
    private int groups;
    private int rules;

    private ModelTests(int run) {
        seed = run * 7919L + 17;
        crowded = run % 2 == 0;
    }

    public static void main(String[] args) {
        for (int run = 0; run < RUNS; run++) {
            Check.part("run " + run);
            ModelTests test = new ModelTests(run);
            while (test.house.calls() < House.MOST_CALLS) {
                test.step();
            }
        }
        Check.end();
    }

    private int below(int bound) {
        seed = seed * 6364136223846793005L + 1442695040888963407L;
        return (int) ((seed >>> 33) % bound);
    }

    /** A number from the range, and now and then one that may be outside. */
    private int pick(int from, int to) {
        int kind = below(60);
        if (kind == 0) {
            return EDGES[below(EDGES.length)];
        }
        if (kind == 1) {
            return below(2) == 0 ? from - 1 : to + 1;
        }
        return to < from ? from : from + below(to - from + 1);
    }

    /** The first calls fill the house, so that the others find something there. */
    private void step() {
        int kind = below(100);
        boolean building = house.calls() < BUILDING;
        if (kind < (building ? 20 : 5)) {
            passOrAddTable();
        } else if (kind < (building ? 60 : 10)) {
            addToShelf();
        } else if (kind < (building ? 75 : 20)) {
            comeAndGo();
        } else if (kind < 60) {
            play();
        } else {
            ask();
        }
    }

    private void passOrAddTable() {
        if (below(3) > 0) {
            int minutes = pick(1, below(8) == 0 ? 500 : 40);
            compare("pass " + minutes, h -> h.pass(minutes), () -> model.pass(minutes));
        } else {
            int seats = pick(2, 6);
            compare("addTable " + seats, h -> h.addTable(seats), () -> model.addTable(seats));
        }
    }

    private void addToShelf() {
        int kind = below(4);
        if (kind == 0) {
            addTitle();
        } else if (kind == 1) {
            int title = anyTitle();
            copies += compare("addCopy " + title, h -> h.addCopy(title), () -> model.addCopy(title));
        } else {
            addRule();
        }
    }

    /** In a crowded house few titles share the copies, so that more is lent. */
    private int anyTitle() {
        return pick(0, (crowded ? Math.min(titles, 2) : titles) - 1);
    }

    private void addTitle() {
        int[] a = {pick(1, 4), pick(4, 12), pick(5, crowded ? 60 : 300), pick(0, 9), pick(0, 9), pick(0, 4), pick(0, 1)};
        titles += compare("addTitle " + java.util.Arrays.toString(a),
            h -> h.addTitle(a[0], a[1], a[2], a[3], a[4], a[5], a[6]),
            () -> model.addTitle(a[0], a[1], a[2], a[3], a[4], a[5], a[6]));
    }

    private void addRule() {
        int title = pick(0, titles - 1);
        int parent = below(3) == 0 ? -1 : pick(0, Math.min(rules, 5));
        int test = pick(0, 3);
        int value = pick(1, test == 1 ? 300 : 6);
        int ruling = pick(0, 99);
        rules += compare("addRule " + title + " " + parent + " " + test + " " + value + " " + ruling,
            h -> h.addRule(title, parent, test, value, ruling),
            () -> model.addRule(title, parent, test, value, ruling));
    }

    private void comeAndGo() {
        int group = pick(0, groups - 1);
        if (below(2) == 0) {
            int players = pick(1, 12);
            int minutes = pick(10, 600);
            groups += compare("arrive " + players + " " + minutes,
                h -> h.arrive(players, minutes), () -> model.arrive(players, minutes));
        } else {
            compare("leave " + group, h -> h.leave(group), () -> model.leave(group));
        }
    }

    private void play() {
        int group = pick(0, groups - 1);
        int kind = pick(0, 3);
        int chance = below(7);
        if (chance < 3) {
            int title = anyTitle();
            compare("serve " + group + " " + title, h -> h.serve(group, title), () -> model.serve(group, title));
        } else if (chance < 6) {
            int lost = pick(0, below(4) == 0 ? 9 : 2);
            compare("giveBack " + group + " " + kind + " " + lost,
                h -> h.giveBack(group, kind, lost), () -> model.giveBack(group, kind, lost));
        } else {
            int copy = pick(0, copies - 1);
            int many = pick(1, below(4) == 0 ? 9 : 2);
            compare("found " + copy + " " + kind + " " + many,
                h -> h.found(copy, kind, many), () -> model.found(copy, kind, many));
        }
    }

    private void ask() {
        int kind = below(3);
        if (kind == 0) {
            askOfGroup(pick(0, groups - 1));
        } else if (kind == 1) {
            askOfCopy(pick(0, copies - 1));
        } else {
            askOfHouse();
        }
    }

    private void askOfGroup(int group) {
        int place = pick(0, 3);
        switch (below(6)) {
            case 0:
                compare("tableOf " + group, h -> h.tableOf(group), () -> model.tableOf(group));
                compare("tablesOf " + group, h -> h.tablesOf(group), () -> model.tablesOf(group));
                break;
            case 1:
                compare("left " + group, h -> h.left(group), () -> model.left(group));
                break;
            case 2:
                compare("offers " + group, h -> h.offers(group), () -> model.offers(group));
                break;
            case 3:
                compare("offerAt " + group + " " + place,
                    h -> h.offerAt(group, place), () -> model.offerAt(group, place));
                break;
            case 4:
                compare("copyOf " + group, h -> h.copyOf(group), () -> model.copyOf(group));
                break;
            default:
                compare("ruling " + group, h -> h.ruling(group), () -> model.ruling(group));
                compare("rulingFromBelow " + group, h -> h.rulingFromBelow(group), () -> model.ruling(group));
                break;
        }
    }

    private void askOfCopy(int copy) {
        int kind = pick(0, 3);
        switch (below(3)) {
            case 0:
                compare("pieces " + copy + " " + kind, h -> h.pieces(copy, kind), () -> model.pieces(copy, kind));
                break;
            case 1:
                compare("stateOf " + copy, h -> h.stateOf(copy), () -> model.stateOf(copy));
                break;
            default:
                compare("lenders " + copy, h -> h.lenders(copy), () -> model.lenders(copy));
                break;
        }
    }

    private void askOfHouse() {
        int players = pick(1, 12);
        int title = pick(0, titles - 1);
        switch (below(4)) {
            case 0:
                compare("waiting", House::waiting, model::waiting);
                break;
            case 1:
                compare("now", House::now, model::now);
                break;
            case 2:
                compare("depth " + title, h -> h.depth(title), () -> model.depth(title));
                break;
            default:
                compare("waste " + players, h -> h.waste(players), () -> model.waste(players));
                compare("wasteByAll " + players, h -> h.wasteByAll(players), () -> model.waste(players));
                break;
        }
    }

    /** Tells 1 if the call answered, 0 if it threw or if the house has had all its calls. */
    private int compare(String what, House.Call program, Modelled due) {
        if (house.calls() >= House.MOST_CALLS) {
            return 0;
        }
        String answer = Snapshot.answer(h -> due.run(), house);
        Check.same(what, answer, Snapshot.answer(program, house));
        return answer.startsWith("I") ? 0 : 1;
    }
}
