/** Edges of promise 1 and of what the terms say of all calls: 512 calls, constants, numbers that name nothing. */
final class TermEdges {
    private static final String CALLS =
        "An object is used for at most 512 calls after it has been made; what later calls answer is free.";
    private static final String BEGINS = "Begins in the minute 0, without tables, groups, titles and copies.";
    private static final String NO_SUCH =
        "IndexOutOfBoundsException: there is no such group, title, copy, kind, rule or place.";
    private static final String AS_TOLD = "Throws `IndexOutOfBoundsException` as told";

    private TermEdges() {
    }

    static void run() {
        calls();
        constants();
        promise1();
        asTheMethodTells();
        groups();
        titles();
        copies();
        kinds();
        others();
    }

    private static void calls() {
        Edge.of(2, CALLS, "the 512th call of one kind", () -> {
            House x = new House();
            for (int call = 1; call <= 512; call++) {
                Check.due("pass(39)", 39 * call, x.pass(39));
            }
            Check.due("calls", 512, x.calls());
        });
        Edge.of(18, CALLS, "the 512th call in a house that is full", () -> {
            House x = fullHouse();
            for (int title = 0; title < 8; title++) {
                for (int rule = 0; rule < 12; rule++) {
                    Check.due("addRule", rule, x.addRule(title, rule - 1, Meeplehouse.PLAYERS, 1, rule));
                }
            }
            while (x.calls() < 509) {
                Check.due("serve", 7, x.serve(29, 7));
                Check.due("giveBack", 0, x.giveBack(29, 0, 0));
            }
            while (x.calls() < 510) {
                Check.due("now", 0, x.now());
            }
            Check.due("serve", 7, x.serve(29, 7));
            Check.due("ruling", 11, x.ruling(29));
            Check.due("calls", 512, x.calls());
        });
    }

    /** All tables, groups, titles and copies that there can be; the last group sits, the others wait. */
    private static House fullHouse() {
        House house = House.withEqualTables(10, 2);
        for (int group = 0; group < 29; group++) {
            house.arrive(12, 600);
        }
        house.arrive(11, 600);
        for (int title = 0; title < 8; title++) {
            house.addTitle(1, 12, 5, 1, 0, 0, 9);
        }
        for (int copy = 0; copy < 16; copy++) {
            house.addCopy(copy % 8);
        }
        return house;
    }

    private static void constants() {
        Edge.of(10, "The constants: `NONE = -1`: There is none.", "its value, and where it is answered", () -> {
            Check.due("NONE", -1, Meeplehouse.NONE);
            House x = new House();
            x.arrive(1, 10);
            Check.due("tableOf", -1, x.tableOf(0));
            Check.due("copyOf", -1, x.copyOf(0));
            Check.due("waste", -1, x.waste(1));
        });
        Edge.of(22, "`SHELF = 0, SERVED = 1, LENDING = 2`: Where a copy is.", "their values", () -> {
            Check.due("SHELF", 0, Meeplehouse.SHELF);
            Check.due("SERVED", 1, Meeplehouse.SERVED);
            Check.due("LENDING", 2, Meeplehouse.LENDING);
        });
        Edge.of(7, "`PLAYERS = 0, HURRY = 1, SHARE = 2, LENT = 3`: Tests.", "their values", () -> {
            Check.due("PLAYERS", 0, Meeplehouse.PLAYERS);
            Check.due("HURRY", 1, Meeplehouse.HURRY);
            Check.due("SHARE", 2, Meeplehouse.SHARE);
            Check.due("LENT", 3, Meeplehouse.LENT);
        });
    }

    private static void promise1() {
        Edge.of(1, BEGINS, "the minute 0", () -> Check.due("now", 0, new House().now()));
        Edge.of(1, BEGINS, "without tables", () -> {
            House x = new House();
            for (int players = 1; players <= 12; players++) {
                Check.due("waste", Meeplehouse.NONE, x.waste(players));
                Check.due("wasteByAll", Meeplehouse.NONE, x.wasteByAll(players));
            }
            Check.due("the first table", 0, x.addTable(2));
        });
        Edge.of(1, BEGINS, "without groups", () -> {
            House x = new House();
            Check.due("waiting", 0, x.waiting());
            Check.due("the first group", 0, x.arrive(1, 10));
        });
        Edge.of(1, BEGINS, "without titles and copies", () -> {
            House x = new House();
            Check.due("the first title", 0, x.addTitle(1, 1, 5, 0, 0, 0, 0));
            Check.due("the first copy", 0, x.addCopy(0));
            Check.due("the first rule", 0, x.addRule(0, Meeplehouse.NONE, Meeplehouse.PLAYERS, 1, 0));
        });
        Edge.of(1, BEGINS, "though another object is full", () -> {
            House other = fullHouse();
            House x = new House();
            Check.due("now", 0, x.now());
            Check.due("waiting", 0, x.waiting());
            Check.due("the first table", 0, x.addTable(2));
            Check.due("the other's waiting", 29, other.waiting());
        });
    }

    /** No method tells of NoSuchElementException, so none throws it, though nothing is there to be told. */
    private static void asTheMethodTells() {
        String sentence = "IllegalStateException, NoSuchElementException: as the method tells.";
        Edge.of(15, sentence, "one that waits has no minutes left", () -> {
            House x = new House();
            x.arrive(1, 10);
            Check.state("left", x, h -> h.left(0));
        });
        Edge.of(18, sentence, "one that is seated, and no copy to serve", () -> {
            House x = House.withGroups(1);
            x.addTitle(1, 12, 5, 0, 0, 0, 0);
            Check.state("serve", x, h -> h.serve(0, 0));
            Check.state("giveBack", x, h -> h.giveBack(0, 0, 0));
            Check.state("ruling", x, h -> h.ruling(0));
            Check.state("rulingFromBelow", x, h -> h.rulingFromBelow(0));
        });
    }

    private static void groups() {
        group(9, AS_TOLD, "leave", House::leave);
        group(10, AS_TOLD, "tableOf", House::tableOf);
        group(11, AS_TOLD, "tablesOf", House::tablesOf);
        group(15, AS_TOLD, "left", House::left);
        group(16, AS_TOLD, "offers", House::offers);
        group(18, AS_TOLD + ", of the group or the title", "serve", (h, group) -> h.serve(group, 0));
        group(19, AS_TOLD + ", of the group or the kind", "giveBack", (h, group) -> h.giveBack(group, 0, 0));
        group(24, AS_TOLD, "copyOf", House::copyOf);
        group(25, AS_TOLD, "ruling", House::ruling);
        group(26, AS_TOLD, "rulingFromBelow", House::rulingFromBelow);
    }

    private static void group(int promise, String sentence, String name, Check.Numbered call) {
        none(promise, "group", name, call);
        Edge.of(promise, sentence, "the groups 0 to 1 are there, no other", () -> {
            House x = House.withTables(6);
            x.addTitle(1, 12, 5, 0, 0, 0, 0);
            x.addCopy(0);
            x.arrive(6, 60);
            x.arrive(6, 60);
            Check.noSuch(name, 2, x, call);
            isThere(name, x, call, 1, 0);
        });
        Edge.of(promise, sentence, "the last of thirty groups is there, the next is not", () -> {
            House x = fullHouse();
            Check.noSuch(name, 30, x, call);
            isThere(name, x, call, 0, 29);
        });
    }

    private static void none(int promise, String kind, String name, Check.Numbered call) {
        Edge.of(promise, NO_SUCH, "no " + kind + " is there yet", () -> {
            House x = new House();
            Check.noSuch(name, 0, x, call);
        });
    }

    /** The call may be refused for another reason, but not since there is no such thing. */
    private static void isThere(String name, House house, Check.Numbered call, int... numbers) {
        for (int number : numbers) {
            String answer = Snapshot.answer(h -> call.on(h, number), house);
            Check.due(name + " " + number + " is there", 0, answer.equals("IndexOutOfBoundsException") ? 1 : 0);
        }
    }

    private static void titles() {
        title(6, AS_TOLD, "addCopy", House::addCopy);
        title(7, AS_TOLD + ", of the title or the parent", "addRule",
            (h, title) -> h.addRule(title, Meeplehouse.NONE, Meeplehouse.PLAYERS, 1, 0));
        title(27, AS_TOLD, "depth", House::depth);
        Edge.of(18, AS_TOLD + ", of the group or the title", "no title is there yet", () -> {
            House x = House.withGroups(1);
            Check.noSuch("serve(0, title)", 0, x, (h, title) -> h.serve(0, title));
        });
        Edge.of(18, AS_TOLD + ", of the group or the title", "the last of eight is there, the next is not", () -> {
            House x = fullHouse();
            Check.noSuch("serve(29, title)", 8, x, (h, title) -> h.serve(29, title));
            Check.due("the last", 7, x.serve(29, 7));
        });
    }

    private static void title(int promise, String sentence, String name, Check.Numbered call) {
        none(promise, "title", name, call);
        Edge.of(promise, sentence, "the titles 0 to 1 are there, no other", () -> {
            House x = new House();
            x.addTitle(1, 12, 5, 0, 0, 0, 0);
            x.addTitle(1, 12, 5, 0, 0, 0, 0);
            Check.noSuch(name, 2, x, call);
            isThere(name, x, call, 1, 0);
        });
        Edge.of(promise, sentence, "the last of eight titles is there, the next is not", () -> {
            House x = fullHouse();
            Check.noSuch(name, 8, x, call);
            isThere(name, x, call, 0, 7);
        });
    }

    private static void copies() {
        copy(20, AS_TOLD + ", of the copy or the kind", "found", (h, copy) -> h.found(copy, 0, 1));
        copy(21, AS_TOLD + ", of the copy or the kind", "pieces", (h, copy) -> h.pieces(copy, 0));
        copy(22, AS_TOLD, "stateOf", House::stateOf);
        copy(23, AS_TOLD, "lenders", House::lenders);
    }

    private static void copy(int promise, String sentence, String name, Check.Numbered call) {
        none(promise, "copy", name, call);
        Edge.of(promise, sentence, "the copies 0 to 1 are there, no other", () -> {
            House x = new House();
            x.addTitle(1, 12, 5, 1, 1, 1, 1);
            x.addCopy(0);
            x.addCopy(0);
            Check.noSuch(name, 2, x, call);
            isThere(name, x, call, 1, 0);
        });
        Edge.of(promise, sentence, "the last of sixteen copies is there, the next is not", () -> {
            House x = fullHouse();
            Check.noSuch(name, 16, x, call);
            isThere(name, x, call, 0, 15);
        });
    }

    private static void kinds() {
        kind(19, AS_TOLD + ", of the group or the kind", "giveBack", (h, kind) -> h.giveBack(29, kind, 0));
        kind(20, AS_TOLD + ", of the copy or the kind", "found", (h, kind) -> h.found(0, kind, 1));
        kind(21, AS_TOLD + ", of the copy or the kind", "pieces", (h, kind) -> h.pieces(0, kind));
    }

    private static void kind(int promise, String sentence, String name, Check.Numbered call) {
        for (int last : new int[] {0, 3}) {
            Edge.of(promise, sentence, "the kind " + last + " is there, those below 0 and above 3 are not", () -> {
                House x = fullHouse();
                x.serve(29, 7);
                Check.noSuch(name, 4, x, call);
                isThere(name, x, call, last);
            });
        }
    }

    private static void others() {
        none(17, "group", "offerAt", (h, group) -> h.offerAt(group, 0));
        Edge.of(17, AS_TOLD + ", of the group or the place", "the groups 0 to 1 are there, no other", () -> {
            House x = House.withGroups(2);
            x.addTitle(1, 12, 5, 0, 0, 0, 0);
            x.addCopy(0);
            Check.noSuch("offerAt", 2, x, (h, group) -> h.offerAt(group, 0));
            isThere("offerAt", x, (h, group) -> h.offerAt(group, 0), 1, 0);
        });
        Edge.of(17, AS_TOLD + ", of the group or the place", "the last of thirty is there, the next is not", () -> {
            House x = fullHouse();
            Check.noSuch("offerAt", 30, x, (h, group) -> h.offerAt(group, 0));
            isThere("offerAt", x, (h, group) -> h.offerAt(group, 0), 29);
        });
        Edge.of(7, AS_TOLD + ", of the title or the parent", "the rule 0 of an empty book", () -> {
            House x = new House();
            x.addTitle(1, 12, 5, 0, 0, 0, 0);
            for (int parent : new int[] {-2, 0, 1, Integer.MAX_VALUE, Integer.MIN_VALUE}) {
                Check.index("parent " + parent, x, h -> h.addRule(0, parent, Meeplehouse.PLAYERS, 1, 0));
            }
        });
        Edge.of(17, NO_SUCH, "no place, since nothing is offered", () -> {
            House x = House.withGroups(1);
            Check.noSuch("offerAt(0, place)", 0, x, (h, place) -> h.offerAt(0, place));
        });
    }
}
