/** Edges of promises 4, 13 and 14: tables and the seats that are too many. */
final class TableEdges {
    private static final int NONE = Meeplehouse.NONE;
    private static final String ROW =
        "Tables stand in a row and are numbered from 0, at most 10; a table has 2 to 6 seats.";
    private static final String MERGED = "Some tables side by side can be merged: they have the seats of all, but"
        + " one less for each table beside the first.";
    private static final String TEN = "Throws `IllegalStateException` if there are 10";

    private TableEdges() {
    }

    static void run() {
        addTable();
        addTableRefused();
        wastes(13, House::waste, "Returns how many seats would be too many for some players, if they were seated"
            + " now, found row by row.");
        wastes(14, House::wasteByAll, "Returns the same, found by going through all sets of tables.");
        merged(13, House::waste);
        merged(14, House::wasteByAll);
        refused(13, House::waste);
        refused(14, House::wasteByAll);
        Edge.of(14, "Returns the same, found by going through all sets of tables.", "of ten, however they are taken",
            TableEdges::allSets);
    }

    private static void addTable() {
        Edge.of(4, "Adds a table at the end of the row.", "the second and the tenth", () -> {
            House x = House.withTables(2, 6);
            x.arrive(2, 10);
            x.arrive(6, 10);
            Check.due("the one of 2 seats", 0, x.tableOf(0));
            Check.due("the one of 6 seats", 1, x.tableOf(1));
            House ten = House.withTables(2, 2, 2, 2, 2, 2, 2, 2, 2, 6);
            ten.arrive(6, 10);
            Check.due("the tenth", 9, ten.tableOf(0));
        });
        Edge.of(4, "`seats`: 2 to 6", "the smallest, the largest and those between", () -> {
            for (int seats = 2; seats <= 6; seats++) {
                House x = new House();
                Check.due("addTable", 0, x.addTable(seats));
                Check.due("just enough", 0, x.waste(seats));
                Check.due("one too few", NONE, x.waste(seats + 1));
            }
        });
        Edge.of(4, "Returns its number.", "the first, the last and those between", () -> {
            House x = new House();
            for (int table = 0; table < 10; table++) {
                Check.due("addTable", table, x.addTable(6));
            }
        });
        Edge.of(4, ROW, "each of ten tables is taken alone", () -> {
            House x = House.withEqualTables(10, 2);
            for (int group = 0; group < 10; group++) {
                Check.due("arrive", group, x.arrive(2, 10));
                Check.due("tableOf", group, x.tableOf(group));
                Check.due("tablesOf", 1, x.tablesOf(group));
            }
            x.arrive(2, 10);
            Check.due("there is no eleventh", 1, x.waiting());
        });
    }

    private static void addTableRefused() {
        Edge.of(4, "Throws `IllegalArgumentException` if seats is out of range", "on each side", () ->
            Check.outOfRange("addTable", 2, 6, new House(), House::addTable));
        Edge.of(4, "IllegalArgumentException: another argument is out of its range.", "before the tenth table", () ->
            Check.outOfRange("addTable", 2, 6, House.withEqualTables(9, 2), House::addTable));
        Edge.of(4, TEN, "the tenth is not refused, the eleventh is", () -> {
            House x = House.withEqualTables(9, 4);
            Check.due("the tenth", 9, x.addTable(4));
            Check.state("the eleventh", x, h -> h.addTable(4));
            Check.state("the same again", x, h -> h.addTable(4));
            Check.state("of the smallest", x, h -> h.addTable(2));
            Check.state("of the largest", x, h -> h.addTable(6));
        });
        Edge.of(4, TEN, "though all tables are taken", () -> {
            House x = House.withEqualTables(10, 2);
            x.arrive(11, 10);
            Check.state("the eleventh", x, h -> h.addTable(2));
        });
        Edge.of(4, "If several apply, the one that is named first in the throws clause is thrown; a call that throws"
            + " changes nothing.", "an eleventh table out of range", () ->
            Check.outOfRange("addTable", 2, 6, House.withEqualTables(10, 2), House::addTable));
    }

    private static void wastes(int promise, Check.Numbered waste, String sentence) {
        Edge.of(promise, sentence, "none and the most at one table", () -> {
            House x = House.withTables(6);
            for (int players = 1; players <= 6; players++) {
                Check.due("players " + players, 6 - players, waste.on(x, players));
            }
            Check.due("players 7", NONE, waste.on(x, 7));
        });
        Edge.of(promise, sentence, "the fewest of several rows", () -> {
            House x = House.withTables(6, 3, 3, 4);
            int[] due = {2, 1, 0, 0, 0, 0, 1, 0, 1, 0, 2, 1};
            for (int players = 1; players <= 12; players++) {
                Check.due("players " + players, due[players - 1], waste.on(x, players));
            }
        });
        Edge.of(promise, sentence, "asking seats nobody", () -> {
            House x = House.withTables(4);
            Check.due("players 4", 0, waste.on(x, 4));
            Check.due("players 4 again", 0, waste.on(x, 4));
            x.arrive(4, 10);
            Check.due("the table is taken now", NONE, waste.on(x, 1));
        });
        Edge.of(promise, "Returns how many; NONE if they could not be seated.", "no tables, all taken, one free", () -> {
            Check.due("no tables", NONE, waste.on(new House(), 1));
            House x = House.withTables(2, 2);
            x.arrive(2, 10);
            Check.due("one is free", 1, waste.on(x, 1));
            Check.due("one is not enough", NONE, waste.on(x, 3));
            x.arrive(2, 10);
            Check.due("all are taken", NONE, waste.on(x, 1));
            x.leave(0);
            Check.due("the first is free again", 0, waste.on(x, 2));
        });
    }

    private static void merged(int promise, Check.Numbered waste) {
        Edge.of(promise, MERGED, "one table has all its seats", () ->
            Check.due("players 6", 0, waste.on(House.withTables(6), 6)));
        Edge.of(promise, MERGED, "two tables have one less", () -> {
            House small = House.withTables(2, 2);
            Check.due("players 3", 0, waste.on(small, 3));
            Check.due("players 4", NONE, waste.on(small, 4));
            House large = House.withTables(6, 6);
            Check.due("players 11", 0, waste.on(large, 11));
            Check.due("players 12", NONE, waste.on(large, 12));
        });
        Edge.of(promise, MERGED, "all ten have nine less", () -> {
            House x = House.withEqualTables(10, 2);
            Check.due("players 11", 0, waste.on(x, 11));
            Check.due("players 12", NONE, waste.on(x, 12));
        });
        Edge.of(promise, MERGED, "not side by side, for one between is taken", () -> {
            House x = House.withTables(2, 6, 2);
            x.arrive(6, 10);
            Check.due("players 2", 0, waste.on(x, 2));
            Check.due("players 3", NONE, waste.on(x, 3));
        });
        Edge.of(promise, MERGED, "the last and the first are not side by side", () -> {
            House x = House.withEqualTables(10, 2);
            for (int group = 0; group < 10; group++) {
                x.arrive(2, 10);
            }
            x.leave(0);
            x.leave(9);
            Check.due("players 2", 0, waste.on(x, 2));
            Check.due("players 3", NONE, waste.on(x, 3));
        });
    }

    private static void refused(int promise, Check.Numbered waste) {
        Edge.of(promise, "`players`: 1 to 12", "the smallest and the largest", () -> {
            House x = House.withTables(6, 6, 6);
            Check.due("players 1", 5, waste.on(x, 1));
            Check.due("players 12", 4, waste.on(x, 12));
        });
        Edge.of(promise, "Throws `IllegalArgumentException` if players is out of range", "on each side", () -> {
            Check.outOfRange("without tables", 1, 12, new House(), waste);
            Check.outOfRange("with enough seats", 1, 12, House.withTables(6, 6, 6, 6), waste);
        });
    }

    /** Ten tables of two, of which the set is free: a row of so many has one seat more than it has tables. */
    private static void allSets() {
        for (int free = 0; free < 1 << 10; free++) {
            House x = House.withEqualTables(10, 2);
            for (int group = 0; group < 10; group++) {
                x.arrive(2, 10);
            }
            int row = 0;
            int longest = 0;
            for (int table = 0; table < 10; table++) {
                row = (free >> table & 1) == 0 ? 0 : row + 1;
                longest = Math.max(longest, row);
                if (row > 0) {
                    x.leave(table);
                }
            }
            for (int players = 1; players <= 12; players++) {
                int due = Math.max(players - 1, 1) > longest ? NONE : players == 1 ? 1 : 0;
                Check.due("waste of the set " + free, due, x.waste(players));
                Check.due("wasteByAll of the set " + free, due, x.wasteByAll(players));
            }
        }
    }
}
