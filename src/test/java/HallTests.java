/** Promises 1 to 4 and 8 to 15: minutes, tables and groups. */
public final class HallTests {
    private HallTests() {
    }

    public static void main(String[] args) {
        promise1();
        promise2And3();
        promise4();
        promise8();
        promise8Choice();
        promise9();
        promise9Queue();
        promise10And11();
        promise12();
        promise13And14();
        promise15();
        Check.end();
    }

    private static void promise1() {
        Check.part("promise 1");
        House x = new House();
        Check.due("now", 0, x.now());
        Check.due("waiting", 0, x.waiting());
        Check.due("waste(1) without tables", Meeplehouse.NONE, x.waste(1));
        Check.due("wasteByAll(1) without tables", Meeplehouse.NONE, x.wasteByAll(1));
        Check.index("tableOf(0)", x, h -> h.tableOf(0));
        Check.index("stateOf(0)", x, h -> h.stateOf(0));
        Check.index("depth(0)", x, h -> h.depth(0));
        Check.index("addCopy(0)", x, h -> h.addCopy(0));
        Check.due("first table", 0, x.addTable(2));
        Check.due("first title", 0, x.addTitle(1, 1, 5, 0, 0, 0, 0));
        Check.due("first copy", 0, x.addCopy(0));
        Check.due("first group", 0, x.arrive(1, 10));
        House other = new House();
        Check.index("another object has no group", other, h -> h.tableOf(0));
    }

    private static void promise2And3() {
        Check.part("promises 2 and 3");
        House x = new House();
        Check.due("pass(1)", 1, x.pass(1));
        Check.due("pass(500)", 501, x.pass(500));
        Check.due("now", 501, x.now());
        for (int minutes : new int[] {0, -1, 501, Integer.MAX_VALUE, Integer.MIN_VALUE}) {
            Check.argument("pass(" + minutes + ")", x, h -> h.pass(minutes));
        }
        for (int i = 0; i < 38; i++) {
            x.pass(500);
        }
        Check.due("now", 19501, x.now());
        Check.state("pass(500) beyond 20000", x, h -> h.pass(500));
        Check.due("pass(499)", 20000, x.pass(499));
        Check.due("now", 20000, x.now());
        Check.state("pass(1) at 20000", x, h -> h.pass(1));
        Check.argument("pass(0) at 20000: the argument first", x, h -> h.pass(0));
        Check.argument("pass(501) at 20000: the argument first", x, h -> h.pass(501));
    }

    private static void promise4() {
        Check.part("promise 4");
        House x = new House();
        for (int seats : new int[] {1, 7, 0, -2, Integer.MAX_VALUE, Integer.MIN_VALUE}) {
            Check.argument("addTable(" + seats + ")", x, h -> h.addTable(seats));
        }
        for (int table = 0; table < 10; table++) {
            Check.due("addTable", table, x.addTable(table % 2 == 0 ? 2 : 6));
        }
        Check.state("an eleventh table", x, h -> h.addTable(2));
        Check.argument("an eleventh table of 7: the argument first", x, h -> h.addTable(7));
        Check.due("the end of the row: 2 and 6 merged", 0, x.waste(7));
    }

    private static void promise8() {
        Check.part("promise 8");
        House x = House.withTables(2);
        int[][] wrong = {{0, 10}, {13, 10}, {-1, 10}, {1, 9}, {1, 601}, {1, -10}, {Integer.MIN_VALUE, 10},
            {1, Integer.MAX_VALUE}};
        for (int[] pair : wrong) {
            Check.argument("arrive" + pair[0] + "," + pair[1], x, h -> h.arrive(pair[0], pair[1]));
        }
        Check.due("arrive(2, 600)", 0, x.arrive(2, 600));
        Check.due("it sits", 0, x.tableOf(0));
        Check.due("arrive(12, 10)", 1, x.arrive(12, 10));
        Check.due("it waits", 1, x.waiting());
        for (int group = 2; group < 30; group++) {
            Check.due("arrive", group, x.arrive(1, 10));
        }
        Check.state("a group after thirty", x, h -> h.arrive(1, 10));
        Check.argument("a wrong group after thirty: the argument first", x, h -> h.arrive(0, 10));
        x.leave(29);
        Check.state("those that left count", x, h -> h.arrive(1, 10));
    }

    private static void promise8Choice() {
        Check.part("promise 8, which row");
        House fewestSeats = House.withTables(6, 3, 3);
        seated(fewestSeats, 5, 1, 2);
        House fewestTables = House.withTables(2, 4, 5);
        seated(fewestTables, 5, 2, 1);
        House lowestFirst = House.withTables(6, 3, 4, 4);
        seated(lowestFirst, 4, 2, 1);
        House lowestRow = House.withTables(3, 3, 3);
        seated(lowestRow, 5, 0, 2);
        House taken = House.withTables(3, 4, 3);
        seated(taken, 4, 1, 1);
        seated(taken, 5, Meeplehouse.NONE, 0);
        seated(taken, 1, 0, 1);
        House all = House.withTables(3, 3, 3, 3, 3);
        seated(all, 11, 0, 5);
        House full = House.withTables(3, 3, 3, 3, 3);
        seated(full, 12, Meeplehouse.NONE, 0);
        seated(full, 11, 0, 5);
        House pastQueue = House.withTables(4);
        seated(pastQueue, 5, Meeplehouse.NONE, 0);
        seated(pastQueue, 4, 0, 1);
    }

    private static void seated(House house, int players, int first, int many) {
        int group = house.arrive(players, 60);
        Check.due("first table of " + players, first, house.tableOf(group));
        Check.due("tables of " + players, many, house.tablesOf(group));
    }

    private static void promise9() {
        Check.part("promise 9");
        House x = House.withTables(4, 4);
        x.addTitle(1, 12, 5, 1, 0, 0, 0);
        x.addCopy(0);
        Check.due("arrive", 0, x.arrive(7, 60));
        Check.due("arrive", 1, x.arrive(4, 60));
        Check.due("arrive", 2, x.arrive(7, 60));
        Check.due("arrive", 3, x.arrive(3, 60));
        Check.index("leave(-1)", x, h -> h.leave(-1));
        Check.index("leave(4)", x, h -> h.leave(4));
        x.serve(0, 0);
        Check.state("leave with a copy", x, h -> h.leave(0));
        x.giveBack(0, 0, 0);
        Check.due("leave(0) seats 1 and 3, not 2", 2, x.leave(0));
        Check.due("table of 1", 0, x.tableOf(1));
        Check.due("table of 3", 1, x.tableOf(3));
        Check.due("2 still waits", 1, x.waiting());
        Check.state("leave(0) again", x, h -> h.leave(0));
        Check.due("leave(1) is not enough for 2", 0, x.leave(1));
        Check.due("leave(3) parts the tables for 2", 1, x.leave(3));
        Check.due("tables of 2", 2, x.tablesOf(2));
        Check.due("waiting", 0, x.waiting());
    }

    private static void promise9Queue() {
        Check.part("promise 9, the queue");
        House x = new House();
        x.arrive(4, 60);
        x.arrive(3, 60);
        x.arrive(2, 60);
        Check.due("waiting", 3, x.waiting());
        x.addTable(4);
        Check.due("nobody is seated when a table is added", 3, x.waiting());
        Check.due("leaving the queue lets it be gone through", 1, x.leave(1));
        Check.due("the first of the queue sits", 0, x.tableOf(0));
        Check.due("the later one waits", Meeplehouse.NONE, x.tableOf(2));
        Check.state("it has left the queue", x, h -> h.leave(1));
        Check.due("leave(2) from the queue", 0, x.leave(2));
        Check.due("waiting", 0, x.waiting());
        Check.due("leave(0)", 0, x.leave(0));
        Check.due("none comes back", Meeplehouse.NONE, x.tableOf(2));
    }

    private static void promise10And11() {
        Check.part("promises 10 and 11");
        House x = House.withTables(2, 3, 3);
        Check.index("tableOf(0)", x, h -> h.tableOf(0));
        x.arrive(5, 60);
        x.arrive(6, 60);
        Check.due("tableOf(0)", 1, x.tableOf(0));
        Check.due("tablesOf(0)", 2, x.tablesOf(0));
        Check.due("tableOf(1), it waits", Meeplehouse.NONE, x.tableOf(1));
        Check.due("tablesOf(1), it waits", 0, x.tablesOf(1));
        x.leave(0);
        Check.due("tableOf(0), it has left", Meeplehouse.NONE, x.tableOf(0));
        Check.due("tablesOf(0), it has left", 0, x.tablesOf(0));
        Check.due("tableOf(1)", 0, x.tableOf(1));
        Check.due("tablesOf(1)", 3, x.tablesOf(1));
        for (int group : new int[] {-1, 2, 30, Integer.MAX_VALUE, Integer.MIN_VALUE}) {
            Check.index("tableOf(" + group + ")", x, h -> h.tableOf(group));
            Check.index("tablesOf(" + group + ")", x, h -> h.tablesOf(group));
        }
    }

    private static void promise12() {
        Check.part("promise 12");
        House x = House.withTables(3);
        x.arrive(4, 60);
        x.arrive(3, 60);
        x.arrive(1, 60);
        Check.due("two wait", 2, x.waiting());
        x.leave(0);
        Check.due("one waits", 1, x.waiting());
        x.leave(1);
        Check.due("none waits", 0, x.waiting());
    }

    private static void promise13And14() {
        Check.part("promises 13 and 14");
        House x = House.withTables(4, 2, 6, 3);
        int[] due = {1, 0, 0, 0, 0, 0, 0, 0, 0, 0, 1, 0};
        wastes(x, due);
        x.arrive(2, 60);
        wastes(x, new int[] {2, 1, 0, 0, 1, 0, 1, 0, -1, -1, -1, -1});
        x.arrive(8, 60);
        wastes(x, new int[] {3, 2, 1, 0, -1, -1, -1, -1, -1, -1, -1, -1});
        x.arrive(4, 60);
        wastes(x, new int[] {-1, -1, -1, -1, -1, -1, -1, -1, -1, -1, -1, -1});
        for (int players : new int[] {0, 13, -1, Integer.MAX_VALUE, Integer.MIN_VALUE}) {
            Check.argument("waste(" + players + ")", x, h -> h.waste(players));
            Check.argument("wasteByAll(" + players + ")", x, h -> h.wasteByAll(players));
        }
        House ten = House.withTables(2, 2, 2, 2, 2, 2, 2, 2, 2, 2);
        wastes(ten, new int[] {1, 0, 0, 0, 0, 0, 0, 0, 0, 0, 0, -1});
    }

    private static void wastes(House house, int[] due) {
        for (int players = 1; players <= 12; players++) {
            Check.due("waste(" + players + ")", due[players - 1], house.waste(players));
            Check.due("wasteByAll(" + players + ")", due[players - 1], house.wasteByAll(players));
        }
    }

    private static void promise15() {
        Check.part("promise 15");
        House x = House.withTables(4);
        x.arrive(4, 100);
        x.arrive(4, 50);
        Check.due("left(0)", 100, x.left(0));
        Check.state("left(1), it waits", x, h -> h.left(1));
        x.pass(99);
        Check.due("left(0)", 1, x.left(0));
        x.pass(1);
        Check.due("left(0)", 0, x.left(0));
        x.pass(100);
        Check.due("left(0), it stays on", 0, x.left(0));
        Check.due("leave(0)", 1, x.leave(0));
        Check.due("left(1) counts from when it is seated", 50, x.left(1));
        Check.state("left(0), it has left", x, h -> h.left(0));
        Check.index("left(2)", x, h -> h.left(2));
        Check.index("left(-1)", x, h -> h.left(-1));
    }
}
