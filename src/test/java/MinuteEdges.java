/** Edges of promises 2 and 3: minutes. */
final class MinuteEdges {
    private static final String RANGE = "`minutes`: 1 to 500";
    private static final String ABOVE = "Throws `IllegalStateException` if it would be above 20000";
    private static final String SEVERAL = "If several apply, the one that is named first in the throws clause is"
        + " thrown; a call that throws changes nothing.";

    private MinuteEdges() {
    }

    static void run() {
        range();
        above();
        now();
    }

    /** A house in a minute, reached by the longest passes that there are. */
    static House at(int minute) {
        House house = new House();
        for (int to = 500; to <= minute; to += 500) {
            house.pass(500);
        }
        if (minute % 500 > 0) {
            house.pass(minute % 500);
        }
        return house;
    }

    private static void range() {
        Edge.of(2, RANGE, "the smallest", () -> Check.due("pass(1)", 1, new House().pass(1)));
        Edge.of(2, RANGE, "the largest", () -> Check.due("pass(500)", 500, new House().pass(500)));
        Edge.of(2, "Throws `IllegalArgumentException` if minutes is out of range", "on each side, at once", () ->
            Check.outOfRange("pass", 1, 500, new House(), House::pass));
        Edge.of(2, "Throws `IllegalArgumentException` if minutes is out of range", "on each side, later", () ->
            Check.outOfRange("pass", 1, 500, at(777), House::pass));
        Edge.of(2, "Returns the minute then.", "the same call again", () -> {
            House x = new House();
            Check.due("pass(7)", 7, x.pass(7));
            Check.due("pass(7)", 14, x.pass(7));
            Check.due("pass(7)", 21, x.pass(7));
        });
        Edge.of(2, "Lets minutes pass.", "of a stay as many as pass, and no fewer", () -> {
            House x = House.withTables(2);
            x.arrive(2, 600);
            x.pass(1);
            Check.due("left", 599, x.left(0));
            x.pass(500);
            Check.due("left", 99, x.left(0));
        });
    }

    private static void above() {
        Edge.of(2, ABOVE, "from 19999", () -> {
            House x = at(19999);
            Check.state("pass(2)", x, h -> h.pass(2));
            Check.state("pass(500)", x, h -> h.pass(500));
            Check.due("pass(1)", 20000, x.pass(1));
        });
        Edge.of(2, ABOVE, "by the longest pass", () -> Check.due("pass(500)", 20000, at(19500).pass(500)));
        Edge.of(2, ABOVE, "one minute too late for the longest pass", () -> {
            House x = at(19501);
            Check.state("pass(500)", x, h -> h.pass(500));
            Check.due("pass(499)", 20000, x.pass(499));
        });
        Edge.of(2, ABOVE, "in the last minute, again and again", () -> {
            House x = at(20000);
            Check.state("pass(1)", x, h -> h.pass(1));
            Check.state("pass(1)", x, h -> h.pass(1));
            Check.state("pass(500)", x, h -> h.pass(500));
            Check.due("now", 20000, x.now());
        });
        Edge.of(2, SEVERAL, "in the last minute and out of range", () ->
            Check.outOfRange("pass", 1, 500, at(20000), House::pass));
    }

    private static void now() {
        Edge.of(3, "Now is a minute, 0 at first.", "nothing has passed", () -> {
            House x = new House();
            Check.due("now", 0, x.now());
            Check.due("now again", 0, x.now());
        });
        Edge.of(3, "Returns the minute of now.", "the first and the last that there is", () -> {
            Check.due("now", 1, at(1).now());
            Check.due("now", 20000, at(20000).now());
        });
        Edge.of(3, "Returns the minute of now.", "after a pass that was refused", () -> {
            House x = at(30);
            Check.argument("pass(501)", x, h -> h.pass(501));
            Check.due("now", 30, x.now());
        });
        Edge.of(3, "Returns the minute of now.", "other calls take no time", () -> {
            House x = House.withGroups(2);
            x.addTitle(1, 12, 300, 1, 1, 1, 1);
            x.addCopy(0);
            x.serve(0, 0);
            x.giveBack(0, 0, 1);
            x.found(0, 0, 1);
            x.leave(1);
            Check.due("now", 0, x.now());
        });
    }
}
