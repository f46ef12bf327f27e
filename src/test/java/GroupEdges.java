/** Edges of promises 8 to 12 and 15: groups that come, sit, wait and leave. */
final class GroupEdges {
    private static final int NONE = Meeplehouse.NONE;
    private static final String SEATED = "A group is seated at a row of free tables side by side (or at one free"
        + " table) that has enough seats, merged: the one with the fewest seats too many; of several the one with the"
        + " fewest tables; of several the one with the lowest first table.";
    private static final String WAITS = "A group for which there is none waits.";
    private static final String THIRTY = "Throws `IllegalStateException` if there were 30";
    private static final String GOES = "When a group leaves, its tables part and are free, if it had some; then the"
        + " groups that wait are gone through in the order in which they came, and each for which there is a row is"
        + " seated.";
    private static final String NOBODY = "(Nobody is seated when a table is added.)";
    private static final String LEFT =
        "The minutes left of a group are those until its stay is over, 0 at least; it may stay on.";
    private static final String NOT_SEATED = "Throws `IllegalStateException` if it is not seated";
    private static final String CANNOT_LEAVE = "Throws `IllegalStateException` if it has a copy, or has left";

    private GroupEdges() {
    }

    static void run() {
        arrive();
        arriveRefused();
        enoughSeats();
        choice();
        waits();
        leave();
        leaveInOrder();
        leaveParts();
        leaveQueue();
        leaveRefused();
        tables();
        waiting();
        left();
        leftRefused();
    }

    /** A new group must sit at so many tables from the first. */
    private static void sits(House house, int players, int first, int many) {
        int group = house.arrive(players, 60);
        Check.due("tableOf " + players, first, house.tableOf(group));
        Check.due("tablesOf " + players, many, house.tablesOf(group));
    }

    private static void waits(House house, int players) {
        sits(house, players, NONE, 0);
    }

    private static void arrive() {
        Edge.of(8, "Lets a group come.", "to a free table and to none", () -> {
            House x = House.withTables(2);
            Check.due("arrive", 0, x.arrive(2, 10));
            Check.due("none waits", 0, x.waiting());
            Check.due("arrive", 1, x.arrive(2, 10));
            Check.due("one waits", 1, x.waiting());
        });
        Edge.of(8, "`players`: 1 to 12", "the smallest", () -> sits(House.withTables(2), 1, 0, 1));
        Edge.of(8, "`players`: 1 to 12", "the largest", () -> sits(House.withTables(6, 6, 2), 12, 0, 3));
        Edge.of(8, "`minutes`: 10 to 600: how long it stays", "the smallest and the largest", () -> {
            House x = House.withTables(2, 2);
            x.arrive(2, 10);
            x.arrive(2, 600);
            Check.due("left", 10, x.left(0));
            Check.due("left", 600, x.left(1));
        });
        Edge.of(8, "Returns its number.", "the first, the last and those between", () -> {
            House x = new House();
            for (int group = 0; group < 30; group++) {
                Check.due("arrive", group, x.arrive(12, 600));
            }
        });
        Edge.of(8, "Groups are numbered from 0, at most 30; a group has 1 to 12 players and stays some minutes from"
            + " when it is seated.", "the numbers of those that left are not used again", () -> {
            House x = House.withTables(2);
            for (int group = 0; group < 30; group++) {
                Check.due("arrive", group, x.arrive(1, 10));
                Check.due("leave", 0, x.leave(group));
            }
        });
    }

    private static void arriveRefused() {
        String range = "Throws `IllegalArgumentException` if players or minutes is out of range";
        Edge.of(8, range, "players on each side", () ->
            Check.outOfRange("players", 1, 12, House.withTables(6), (h, players) -> h.arrive(players, 10)));
        Edge.of(8, range, "minutes on each side", () ->
            Check.outOfRange("minutes", 10, 600, House.withTables(6), (h, minutes) -> h.arrive(1, minutes)));
        Edge.of(8, range, "both", () ->
            Check.outOfRange("minutes", 10, 600, House.withTables(6), (h, minutes) -> h.arrive(minutes / 10, minutes)));
        Edge.of(8, THIRTY, "the thirtieth is not refused, the next is", () -> {
            House x = House.withTables(2);
            for (int group = 0; group < 29; group++) {
                x.arrive(2, 10);
            }
            Check.due("the thirtieth", 29, x.arrive(2, 10));
            Check.state("the next", x, h -> h.arrive(1, 10));
            Check.state("the same again", x, h -> h.arrive(1, 10));
            Check.state("a large one", x, h -> h.arrive(12, 600));
        });
        Edge.of(8, THIRTY, "though all have left", () -> {
            House x = House.withTables(2);
            for (int group = 0; group < 30; group++) {
                x.arrive(2, 10);
                x.leave(group);
            }
            Check.state("the next", x, h -> h.arrive(1, 10));
        });
        Edge.of(8, "If several apply, the one that is named first in the throws clause is thrown; a call that throws"
            + " changes nothing.", "after thirty and out of range", () -> {
            House x = new House();
            for (int group = 0; group < 30; group++) {
                x.arrive(1, 10);
            }
            Check.outOfRange("players", 1, 12, x, (h, players) -> h.arrive(players, 10));
            Check.outOfRange("minutes", 10, 600, x, (h, minutes) -> h.arrive(1, minutes));
        });
    }

    private static void enoughSeats() {
        Edge.of(8, SEATED, "just enough seats at one table, and one too few", () -> {
            sits(House.withTables(4), 4, 0, 1);
            waits(House.withTables(4), 5);
        });
        Edge.of(8, SEATED, "just enough seats at two, and one too few", () -> {
            sits(House.withTables(4, 4), 7, 0, 2);
            waits(House.withTables(4, 4), 8);
        });
        Edge.of(8, SEATED, "just enough seats at all ten, and one too few", () -> {
            sits(House.withEqualTables(10, 2), 11, 0, 10);
            waits(House.withEqualTables(10, 2), 12);
        });
        Edge.of(8, SEATED, "the first and the last table of the row", () -> {
            sits(House.withTables(6, 2, 2), 6, 0, 1);
            sits(House.withTables(2, 2, 6), 6, 2, 1);
        });
        Edge.of(8, SEATED, "the first two and the last two of the row", () -> {
            sits(House.withTables(4, 4, 2), 7, 0, 2);
            sits(House.withTables(2, 4, 4), 7, 1, 2);
        });
        Edge.of(8, SEATED, "not free is a table that another group has", () -> {
            House x = House.withTables(3, 4, 3);
            sits(x, 4, 1, 1);
            waits(x, 5);
            sits(x, 3, 0, 1);
            sits(x, 3, 2, 1);
        });
        Edge.of(8, SEATED, "the first and the last table are not side by side", () -> {
            House x = House.withTables(3, 6, 3);
            sits(x, 6, 1, 1);
            waits(x, 5);
        });
    }

    private static void choice() {
        Edge.of(8, SEATED, "fewer seats too many, though at more tables and further on", () ->
            sits(House.withTables(6, 3, 3), 5, 1, 2));
        Edge.of(8, SEATED, "fewer seats too many by one, at one table further on", () ->
            sits(House.withTables(6, 5, 4), 4, 2, 1));
        Edge.of(8, SEATED, "as many too many: one table rather than two ahead", () ->
            sits(House.withTables(2, 4, 5), 5, 2, 1));
        Edge.of(8, SEATED, "as many too many: two tables rather than three ahead", () ->
            sits(House.withTables(2, 2, 3, 3), 5, 2, 2));
        Edge.of(8, SEATED, "as many too many, though not none: fewer tables", () ->
            sits(House.withTables(4, 5, 4, 6, 6), 10, 3, 2));
        Edge.of(8, SEATED, "three tables at the begin of the row, nothing beyond its end", () -> {
            sits(House.withTables(2, 2, 2, 5), 4, 0, 3);
            sits(House.withTables(2, 2, 2, 6), 4, 0, 3);
            sits(House.withTables(6, 2, 2, 2), 4, 1, 3);
        });
        Edge.of(8, SEATED, "as many tables, one: the lowest", () -> sits(House.withTables(6, 4, 4, 4), 4, 1, 1));
        Edge.of(8, SEATED, "as many tables, two: the lowest", () -> sits(House.withTables(3, 3, 3), 5, 0, 2));
        Edge.of(8, SEATED, "as many tables, some taken: the lowest that is free", () -> {
            House x = House.withTables(3, 3, 3, 3);
            sits(x, 3, 0, 1);
            sits(x, 5, 1, 2);
            sits(x, 2, 3, 1);
        });
    }

    private static void waits() {
        Edge.of(8, WAITS, "no table is there", () -> waits(new House(), 1));
        Edge.of(8, WAITS, "all tables are taken", () -> {
            House x = House.withTables(2, 2);
            sits(x, 3, 0, 2);
            waits(x, 1);
        });
        Edge.of(8, WAITS, "one that comes later and for which there is one does not", () -> {
            House x = House.withTables(4);
            waits(x, 5);
            sits(x, 4, 0, 1);
        });
        Edge.of(8, WAITS, "thirty wait", () -> {
            House x = new House();
            for (int group = 0; group < 30; group++) {
                waits(x, 1);
            }
        });
        Edge.of(8, NOBODY, "though there would be a row", () -> {
            House x = new House();
            waits(x, 2);
            x.addTable(2);
            Check.due("waiting", 1, x.waiting());
            Check.due("tableOf", NONE, x.tableOf(0));
            Check.due("the table is free", 0, x.waste(2));
        });
        Edge.of(4, NOBODY, "though the tenth would make the row long enough", () -> {
            House x = House.withEqualTables(9, 2);
            waits(x, 11);
            Check.due("addTable", 9, x.addTable(2));
            Check.due("waiting", 1, x.waiting());
            Check.due("tablesOf", 0, x.tablesOf(0));
        });
    }

    private static void leave() {
        Edge.of(9, "Returns how many groups are seated by that.", "none waits", () -> {
            House x = House.withTables(2);
            x.arrive(2, 10);
            Check.due("leave", 0, x.leave(0));
        });
        Edge.of(9, "Returns how many groups are seated by that.", "one waits that needs one seat more", () -> {
            House x = House.withTables(4);
            x.arrive(4, 10);
            x.arrive(5, 10);
            Check.due("leave", 0, x.leave(0));
            Check.due("waiting", 1, x.waiting());
        });
        Edge.of(9, "Returns how many groups are seated by that.", "one waits that has just enough seats", () -> {
            House x = House.withTables(4);
            x.arrive(3, 10);
            x.arrive(4, 10);
            Check.due("leave", 1, x.leave(0));
            Check.due("tableOf", 0, x.tableOf(1));
        });
        Edge.of(9, "Returns how many groups are seated by that.", "ten, at all the tables of one", () -> {
            House x = House.withEqualTables(10, 2);
            x.arrive(11, 10);
            for (int group = 1; group <= 11; group++) {
                x.arrive(2, 10);
            }
            Check.due("leave", 10, x.leave(0));
            for (int group = 1; group <= 10; group++) {
                Check.due("tableOf", group - 1, x.tableOf(group));
            }
            Check.due("the eleventh waits", NONE, x.tableOf(11));
        });
    }

    private static void leaveInOrder() {
        Edge.of(9, GOES, "the first that came, though another would fit better", () -> {
            House x = House.withTables(6);
            x.arrive(6, 10);
            x.arrive(1, 10);
            x.arrive(6, 10);
            Check.due("leave", 1, x.leave(0));
            Check.due("the first", 0, x.tableOf(1));
            Check.due("the other", NONE, x.tableOf(2));
        });
        Edge.of(9, GOES, "the last that came, if there is no row for those ahead", () -> {
            House x = House.withTables(3);
            x.arrive(3, 10);
            x.arrive(4, 10);
            x.arrive(12, 10);
            x.arrive(3, 10);
            Check.due("leave", 1, x.leave(0));
            Check.due("the last", 0, x.tableOf(3));
            Check.due("two wait", 2, x.waiting());
        });
        Edge.of(9, GOES, "each, with the row that those ahead leave", () -> {
            House x = House.withTables(2, 2, 2);
            x.arrive(4, 10);
            x.arrive(2, 10);
            x.arrive(4, 10);
            x.arrive(3, 10);
            Check.due("leave", 2, x.leave(0));
            Check.due("2 players", 0, x.tableOf(1));
            Check.due("4 players wait", NONE, x.tableOf(2));
            Check.due("3 players", 1, x.tableOf(3));
            Check.due("3 players have two tables", 2, x.tablesOf(3));
        });
        Edge.of(9, GOES, "those that wait on are gone through again", () -> {
            House x = House.withTables(2, 2);
            x.arrive(2, 10);
            x.arrive(2, 10);
            x.arrive(3, 10);
            Check.due("leave", 0, x.leave(0));
            Check.due("leave", 1, x.leave(1));
            Check.due("tablesOf", 2, x.tablesOf(2));
        });
    }

    private static void leaveParts() {
        Edge.of(9, GOES, "merged tables part", () -> {
            House x = House.withTables(2, 3);
            sits(x, 4, 0, 2);
            x.leave(0);
            Check.due("waste", 0, x.waste(2));
            Check.due("waste", 0, x.waste(3));
            sits(x, 3, 1, 1);
            sits(x, 2, 0, 1);
        });
        Edge.of(9, GOES, "merged with a table that was free", () -> {
            House x = House.withTables(2, 4);
            x.arrive(4, 10);
            x.arrive(5, 10);
            Check.due("leave", 1, x.leave(0));
            Check.due("tableOf", 0, x.tableOf(1));
            Check.due("tablesOf", 2, x.tablesOf(1));
        });
        Edge.of(9, GOES, "other groups keep theirs", () -> {
            House x = House.withTables(2, 2, 2);
            x.arrive(2, 10);
            x.arrive(2, 10);
            x.arrive(2, 10);
            Check.due("leave", 0, x.leave(1));
            Check.due("the first", 0, x.tableOf(0));
            Check.due("the last", 2, x.tableOf(2));
            Check.due("between them", 0, x.waste(2));
            Check.due("not side by side", NONE, x.waste(3));
        });
    }

    private static void leaveQueue() {
        Edge.of(9, "Lets a group leave, from its tables or from the queue.", "the first, one between, the last", () -> {
            House x = new House();
            for (int group = 0; group < 4; group++) {
                x.arrive(2, 10);
            }
            Check.due("the first", 0, x.leave(0));
            Check.due("the last", 0, x.leave(3));
            Check.due("one between", 0, x.leave(1));
            Check.due("waiting", 1, x.waiting());
            Check.due("the one that is left", 0, x.leave(2));
            Check.due("waiting", 0, x.waiting());
        });
        Edge.of(9, "Lets a group leave, from its tables or from the queue.", "it does not come back", () -> {
            House x = House.withTables(2);
            x.arrive(2, 10);
            x.arrive(2, 10);
            Check.due("from the queue", 0, x.leave(1));
            Check.due("from its table", 0, x.leave(0));
            Check.due("tableOf", NONE, x.tableOf(1));
            Check.due("waste", 0, x.waste(2));
        });
        Edge.of(9, GOES, "the first group of all is the one that waits", () -> {
            House x = House.withTables(2, 2);
            x.arrive(4, 10);
            x.arrive(3, 10);
            x.addTable(2);
            Check.due("leave", 1, x.leave(1));
            Check.due("tableOf", 0, x.tableOf(0));
            Check.due("tablesOf", 3, x.tablesOf(0));
        });
        Edge.of(9, GOES, "it had no tables, but one was added", () -> {
            House x = new House();
            x.arrive(2, 10);
            x.arrive(2, 10);
            x.addTable(2);
            Check.due("leave", 1, x.leave(0));
            Check.due("tableOf", NONE, x.tableOf(0));
            Check.due("tableOf", 0, x.tableOf(1));
        });
    }

    private static void leaveRefused() {
        Edge.of(9, CANNOT_LEAVE, "it has a copy, until it gives it back", () -> {
            House x = House.withGroups(1);
            x.addTitle(1, 12, 5, 0, 0, 0, 0);
            x.addCopy(0);
            x.serve(0, 0);
            Check.state("leave", x, h -> h.leave(0));
            Check.state("the same again", x, h -> h.leave(0));
            x.giveBack(0, 0, 0);
            Check.due("leave", 0, x.leave(0));
        });
        Edge.of(9, CANNOT_LEAVE, "it has left from its tables", () -> {
            House x = House.withGroups(1);
            x.leave(0);
            Check.state("leave", x, h -> h.leave(0));
            x.arrive(6, 10);
            Check.state("though another came", x, h -> h.leave(0));
        });
        Edge.of(9, CANNOT_LEAVE, "it has left from the queue", () -> {
            House x = new House();
            x.arrive(1, 10);
            x.leave(0);
            Check.state("leave", x, h -> h.leave(0));
        });
        Edge.of(9, CANNOT_LEAVE, "another group's copy does not matter", () -> {
            House x = House.withGroups(2);
            x.addTitle(1, 12, 5, 0, 0, 0, 0);
            x.addCopy(0);
            x.serve(1, 0);
            Check.due("leave", 0, x.leave(0));
            Check.state("leave with the copy", x, h -> h.leave(1));
        });
        Edge.of(9, LEFT, "a stay that is over does not let it leave by itself", () -> {
            House x = House.withTables(2);
            x.arrive(2, 10);
            x.arrive(2, 10);
            x.pass(500);
            Check.due("tableOf", 0, x.tableOf(0));
            Check.due("waiting", 1, x.waiting());
            Check.due("leave", 1, x.leave(0));
        });
    }

    private static void tables() {
        String table = "Returns the table; NONE if it waits or has left.";
        String many = "Returns how many; 0 if it waits or has left.";
        Edge.of(10, "Returns the first table of a group.", "at the begin and at the end of the row", () -> {
            House x = House.withTables(3, 3, 2, 6, 6);
            sits(x, 11, 3, 2);
            sits(x, 5, 0, 2);
            Check.due("tableOf", 3, x.tableOf(0));
            Check.due("tableOf", 0, x.tableOf(1));
        });
        Edge.of(11, "Returns how many tables a group has.", "the fewest and the most", () -> {
            sits(House.withEqualTables(10, 2), 2, 0, 1);
            sits(House.withEqualTables(10, 2), 11, 0, 10);
        });
        for (int promise = 10; promise <= 11; promise++) {
            int due = promise == 10 ? NONE : 0;
            int seated = promise == 10 ? 0 : 1;
            String sentence = promise == 10 ? table : many;
            Check.Numbered call = promise == 10 ? House::tableOf : House::tablesOf;
            Edge.of(promise, sentence, "it waits, has left its tables, has left the queue", () -> {
                House x = House.withTables(2);
                x.arrive(2, 10);
                x.arrive(2, 10);
                Check.due("it waits", due, call.on(x, 1));
                x.leave(1);
                Check.due("it has left the queue", due, call.on(x, 1));
                x.leave(0);
                Check.due("it has left its table", due, call.on(x, 0));
                x.arrive(2, 10);
                Check.due("another has its table", due, call.on(x, 0));
            });
            Edge.of(promise, sentence, "it waited and is seated now", () -> {
                House x = House.withTables(2, 2);
                x.arrive(3, 10);
                x.arrive(2, 10);
                Check.due("it waits", due, call.on(x, 1));
                x.leave(0);
                Check.due("it is seated", seated, call.on(x, 1));
            });
        }
    }

    private static void waiting() {
        String sentence = "Returns how many groups wait.";
        Edge.of(12, sentence, "none came yet", () -> Check.due("waiting", 0, new House().waiting()));
        Edge.of(12, sentence, "all thirty, and fewer as they leave", () -> {
            House x = new House();
            for (int group = 0; group < 30; group++) {
                x.arrive(1, 10);
                Check.due("waiting", group + 1, x.waiting());
            }
            for (int group = 0; group < 30; group++) {
                x.leave(group);
                Check.due("waiting", 29 - group, x.waiting());
            }
        });
        Edge.of(12, sentence, "those that sit and those that left do not", () -> {
            House x = House.withTables(2);
            x.arrive(2, 10);
            Check.due("one sits", 0, x.waiting());
            x.leave(0);
            Check.due("it left", 0, x.waiting());
            x.arrive(3, 10);
            Check.due("one waits", 1, x.waiting());
        });
    }

    private static void left() {
        Edge.of(15, LEFT, "the last minute, none, and long after", () -> {
            House x = House.withTables(2);
            x.arrive(2, 10);
            Check.due("at once", 10, x.left(0));
            x.pass(9);
            Check.due("the last minute", 1, x.left(0));
            x.pass(1);
            Check.due("over", 0, x.left(0));
            x.pass(1);
            Check.due("it stays on", 0, x.left(0));
            x.pass(500);
            Check.due("long after", 0, x.left(0));
        });
        Edge.of(15, LEFT, "a stay that goes beyond the last minute", () -> {
            House x = MinuteEdges.at(20000);
            x.addTable(2);
            x.arrive(2, 600);
            Check.due("left", 600, x.left(0));
        });
        Edge.of(15, LEFT, "a stay from the minute 0 in the last minute", () -> {
            House x = House.withTables(2);
            x.arrive(2, 600);
            for (int pass = 0; pass < 40; pass++) {
                x.pass(500);
            }
            Check.due("left", 0, x.left(0));
        });
        Edge.of(15, "Groups are numbered from 0, at most 30; a group has 1 to 12 players and stays some minutes from"
            + " when it is seated.", "the minutes in the queue do not count", () -> {
            House x = House.withTables(2);
            x.arrive(2, 600);
            x.arrive(2, 10);
            x.pass(500);
            x.leave(0);
            Check.due("left", 10, x.left(1));
            x.pass(3);
            Check.due("left", 7, x.left(1));
        });
        Edge.of(15, "Returns the minutes left of a group.", "each has its own", () -> {
            House x = House.withTables(2, 2);
            x.arrive(2, 20);
            x.pass(5);
            x.arrive(2, 20);
            Check.due("left", 15, x.left(0));
            Check.due("left", 20, x.left(1));
        });
    }

    private static void leftRefused() {
        Edge.of(15, NOT_SEATED, "it waits", () -> {
            House x = new House();
            x.arrive(1, 10);
            Check.state("left", x, h -> h.left(0));
            x.addTable(2);
            Check.state("though a table was added", x, h -> h.left(0));
        });
        Edge.of(15, NOT_SEATED, "it has left its table or the queue", () -> {
            House x = House.withTables(2);
            x.arrive(2, 10);
            x.arrive(2, 10);
            x.leave(1);
            x.leave(0);
            Check.state("it has left its table", x, h -> h.left(0));
            Check.state("it has left the queue", x, h -> h.left(1));
        });
    }
}
