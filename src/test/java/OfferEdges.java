/** Edges of promises 16 to 18: what is offered to whom, in which order, and what is served. */
final class OfferEdges {
    private static final String OFFERED = "A title is offered to a group that is seated and has no copy, if its players"
        + " are from the least to the most ones of the title, the minutes left are at least those that it takes, and"
        + " some copy of it on the shelf can be made complete.";
    private static final String ORDER = "The offers of a group are in order of the minutes that they take, the longest"
        + " first, those of the same by the numbers of their titles.";
    private static final String HOW_MANY = "Returns how many titles are offered to a group.";
    private static final String NO_PLACE = "Throws `IndexOutOfBoundsException` as told, of the group or the place";
    private static final String NO_TITLE = "Throws `IndexOutOfBoundsException` as told, of the group or the title";
    private static final String NOT_OFFERED =
        "Throws `IllegalStateException` if the title is not offered to the group";
    private static final String SEVERAL = "If several apply, the one that is named first in the throws clause is"
        + " thrown; a call that throws changes nothing.";

    private OfferEdges() {
    }

    static void run() {
        howMany();
        toWhom();
        players();
        minutes();
        copies();
        order();
        places();
        serve();
        notOffered();
        notOfferedCopies();
        several();
    }

    /** Groups of six that stay 600 minutes, and titles that take so many minutes, each with a copy. */
    private static House withTitles(int groups, int... minutes) {
        House house = House.withGroups(groups);
        for (int title = 0; title < minutes.length; title++) {
            house.addTitle(1, 12, minutes[title], 1, 0, 0, 0);
            house.addCopy(title);
        }
        return house;
    }

    private static void offersAre(House house, int group, int... due) {
        Check.due("offers", due.length, house.offers(group));
        for (int place = 0; place < due.length; place++) {
            Check.due("offerAt place " + place, due[place], house.offerAt(group, place));
        }
    }

    private static void howMany() {
        Edge.of(16, HOW_MANY, "no title is there yet", () -> Check.due("offers", 0, House.withGroups(1).offers(0)));
        Edge.of(16, HOW_MANY, "all eight", () -> {
            House x = withTitles(1, 5, 5, 5, 5, 5, 5, 5, 5);
            Check.due("offers", 8, x.offers(0));
            Check.due("the same again", 8, x.offers(0));
        });
        Edge.of(16, HOW_MANY, "a title with sixteen copies is offered once", () -> {
            House x = withTitles(1, 5);
            for (int copy = 1; copy < 16; copy++) {
                x.addCopy(0);
            }
            Check.due("offers", 1, x.offers(0));
        });
    }

    private static void toWhom() {
        Edge.of(16, OFFERED, "it waits", () -> {
            House x = new House();
            x.arrive(6, 600);
            x.addTitle(1, 12, 5, 0, 0, 0, 0);
            x.addCopy(0);
            Check.due("offers", 0, x.offers(0));
        });
        Edge.of(16, OFFERED, "it waited and is seated now, the other has left", () -> {
            House x = withTitles(1, 5);
            x.arrive(6, 600);
            Check.due("the one that is seated", 1, x.offers(0));
            Check.due("the one that waits", 0, x.offers(1));
            x.leave(0);
            Check.due("the one that has left", 0, x.offers(0));
            Check.due("the one that is seated now", 1, x.offers(1));
        });
        Edge.of(16, OFFERED, "it has a copy, and has given it back", () -> {
            House x = withTitles(2, 5, 5);
            x.serve(0, 0);
            Check.due("it has a copy", 0, x.offers(0));
            Check.due("another has none", 1, x.offers(1));
            x.giveBack(0, 0, 0);
            Check.due("it has given it back", 2, x.offers(0));
            Check.due("another", 2, x.offers(1));
        });
    }

    private static void players() {
        Edge.of(16, OFFERED, "one fewer than the least, the least, the most, one more than the most", () -> {
            House x = House.withTables(6, 6, 6, 6);
            x.addTitle(3, 5, 5, 0, 0, 0, 0);
            x.addCopy(0);
            int[] players = {2, 3, 5, 6};
            int[] due = {0, 1, 1, 0};
            for (int group = 0; group < 4; group++) {
                x.arrive(players[group], 600);
                Check.due("offers to " + players[group], due[group], x.offers(group));
            }
        });
    }

    private static void minutes() {
        Edge.of(16, OFFERED, "one minute more than it takes, just as many, one less", () -> {
            House x = House.withTables(6);
            x.addTitle(1, 12, 99, 0, 0, 0, 0);
            x.addCopy(0);
            x.arrive(6, 100);
            Check.due("100 left", 1, x.offers(0));
            x.pass(1);
            Check.due("99 left", 1, x.offers(0));
            x.pass(1);
            Check.due("98 left", 0, x.offers(0));
        });
        Edge.of(16, OFFERED, "no minutes are left", () -> {
            House x = withTitles(1, 5);
            x.pass(500);
            x.pass(95);
            Check.due("5 left", 1, x.offers(0));
            x.pass(5);
            Check.due("0 left", 0, x.offers(0));
            x.pass(500);
            Check.due("it stays on", 0, x.offers(0));
        });
    }

    private static void copies() {
        Edge.of(16, OFFERED, "no copy, and one of another title", () -> {
            House x = House.withGroups(1);
            x.addTitle(1, 12, 5, 0, 0, 0, 0);
            x.addTitle(1, 12, 5, 0, 0, 0, 0);
            Check.due("no copy", 0, x.offers(0));
            x.addCopy(1);
            offersAre(x, 0, 1);
        });
        Edge.of(16, OFFERED, "the only copy is served", () -> {
            House x = withTitles(2, 5);
            x.serve(1, 0);
            Check.due("it is served", 0, x.offers(0));
            x.addCopy(0);
            Check.due("another copy", 1, x.offers(0));
        });
        Edge.of(16, OFFERED, "the only other copy lends", () -> {
            House x = Scenes.shelf(2, 0, 4, 3, 3);
            x.serve(1, 0);
            Check.due("it lends", 0, x.offers(0));
            x.giveBack(1, 0, 0);
            Check.due("it is back", 1, x.offers(0));
        });
        Edge.of(16, OFFERED, "just enough pieces, and one too few", () -> {
            Check.due("just enough", 1, Scenes.shelf(1, 0, 9, 4, 5).offers(0));
            Check.due("one too few", 0, Scenes.shelf(1, 0, 9, 4, 4).offers(0));
            Check.due("just enough of three", 1, Scenes.shelf(1, 3, 9, 0, 8, 1).offers(0));
            Check.due("one too few of three", 0, Scenes.shelf(1, 3, 9, 0, 8, 0).offers(0));
        });
        Edge.of(16, OFFERED, "one copy that is whole, the first or the last of sixteen", () -> {
            House last = Scenes.shelf(1, 0, 9, 0, 0, 0, 0, 0, 0, 0, 0, 0, 0, 0, 0, 0, 0, 0, 9);
            Check.due("offers", 1, last.offers(0));
            Check.due("serve", 15, last.serve(0, 0));
            House first = Scenes.shelf(1, 0, 9, 9, 0, 0, 0, 0, 0, 0, 0, 0, 0, 0, 0, 0, 0, 0, 0);
            Check.due("offers", 1, first.offers(0));
            Check.due("serve", 0, first.serve(0, 0));
        });
    }

    private static void order() {
        Edge.of(17, ORDER, "all take the same", () ->
            offersAre(withTitles(1, 60, 60, 60, 60, 60, 60, 60, 60), 0, 0, 1, 2, 3, 4, 5, 6, 7));
        Edge.of(17, ORDER, "each takes a minute more than the one ahead", () ->
            offersAre(withTitles(1, 60, 61, 62, 63, 64, 65, 66, 67), 0, 7, 6, 5, 4, 3, 2, 1, 0));
        Edge.of(17, ORDER, "each takes a minute less than the one ahead", () ->
            offersAre(withTitles(1, 60, 59, 58, 57, 56, 55, 54, 53), 0, 0, 1, 2, 3, 4, 5, 6, 7));
        Edge.of(17, ORDER, "the longest and the shortest that there are, and the same of each", () ->
            offersAre(withTitles(1, 5, 300, 5, 300), 0, 1, 3, 0, 2));
        Edge.of(17, ORDER, "one that is not offered takes no place", () -> {
            House x = withTitles(2, 60, 300, 60, 5);
            x.serve(1, 1);
            offersAre(x, 0, 0, 2, 3);
            x.giveBack(1, 0, 1);
            offersAre(x, 0, 0, 2, 3);
            x.found(1, 0, 1);
            offersAre(x, 0, 1, 0, 2, 3);
        });
    }

    private static void places() {
        Edge.of(17, "`place`: from 0", "the smallest of one, the largest of eight", () -> {
            Check.due("of one", 0, withTitles(1, 5).offerAt(0, 0));
            Check.due("of eight", 0, withTitles(1, 5, 6, 7, 8, 9, 10, 11, 12).offerAt(0, 7));
        });
        Edge.of(17, "Returns a title that is offered to a group.", "the same call again", () -> {
            House x = withTitles(1, 5, 6);
            Check.due("offerAt", 1, x.offerAt(0, 0));
            Check.due("offerAt", 1, x.offerAt(0, 0));
            Check.due("it can be served", 1, x.serve(0, 1));
        });
        Edge.of(17, NO_PLACE, "outside of none, of one and of eight", () -> {
            Check.noSuch("of none", 0, House.withGroups(1), (h, place) -> h.offerAt(0, place));
            Check.noSuch("of one", 1, withTitles(1, 5), (h, place) -> h.offerAt(0, place));
            Check.noSuch("of eight", 8, withTitles(1, 5, 5, 5, 5, 5, 5, 5, 5), (h, place) -> h.offerAt(0, place));
        });
        Edge.of(17, NO_PLACE, "to one with a copy, one that waits, one that has left", () -> {
            House x = withTitles(2, 5, 5);
            x.arrive(6, 600);
            x.serve(0, 0);
            x.arrive(6, 600);
            x.leave(3);
            for (int group : new int[] {0, 2, 3}) {
                Check.noSuch("of none", 0, x, (h, place) -> h.offerAt(group, place));
            }
            Check.noSuch("neither group nor place", 4, x, (h, number) -> h.offerAt(number, number));
        });
    }

    private static void serve() {
        Edge.of(18, "Returns the copy.", "the first and the last of sixteen", () -> {
            House x = House.withGroups(2);
            x.addTitle(1, 12, 5, 1, 1, 1, 1);
            x.addTitle(1, 12, 5, 1, 1, 1, 1);
            x.addCopy(1);
            for (int copy = 1; copy < 16; copy++) {
                x.addCopy(copy == 15 ? 0 : 1);
            }
            Check.due("the last", 15, x.serve(0, 0));
            Check.due("the first", 0, x.serve(1, 1));
        });
        Edge.of(18, "Serves a title to a group.", "ten groups, a copy each", () -> {
            House x = House.withGroups(10);
            x.addTitle(6, 6, 300, 2, 0, 0, 0);
            for (int group = 0; group < 10; group++) {
                x.addCopy(0);
                Check.due("serve", group, x.serve(group, 0));
                Check.due("copyOf", group, x.copyOf(group));
            }
        });
        Edge.of(18, "Serves a title to a group.", "again after it came back", () -> {
            House x = withTitles(1, 5);
            Check.due("serve", 0, x.serve(0, 0));
            x.giveBack(0, 0, 0);
            Check.due("serve", 0, x.serve(0, 0));
        });
    }

    private static void notOffered() {
        Edge.of(18, NOT_OFFERED, "it has a copy", () -> {
            House x = withTitles(1, 5, 5);
            x.serve(0, 0);
            Check.state("the same again", x, h -> h.serve(0, 0));
            Check.state("another title", x, h -> h.serve(0, 1));
        });
        Edge.of(18, NOT_OFFERED, "it waits, or has left", () -> {
            House x = withTitles(1, 5);
            x.arrive(6, 600);
            Check.state("it waits", x, h -> h.serve(1, 0));
            x.leave(1);
            Check.state("it has left the queue", x, h -> h.serve(1, 0));
            x.leave(0);
            Check.state("it has left its table", x, h -> h.serve(0, 0));
        });
        Edge.of(18, NOT_OFFERED, "one player too few, one too many", () -> {
            House x = House.withGroups(1);
            x.addTitle(7, 12, 5, 0, 0, 0, 0);
            x.addTitle(1, 5, 5, 0, 0, 0, 0);
            x.addTitle(6, 6, 5, 0, 0, 0, 0);
            for (int title = 0; title < 3; title++) {
                x.addCopy(title);
            }
            Check.state("too few", x, h -> h.serve(0, 0));
            Check.state("too many", x, h -> h.serve(0, 1));
            Check.due("just as many", 2, x.serve(0, 2));
        });
        Edge.of(18, NOT_OFFERED, "one minute too few", () -> {
            House x = withTitles(1, 100, 99);
            x.pass(500);
            x.pass(1);
            Check.state("a minute too few", x, h -> h.serve(0, 0));
            Check.due("just enough", 1, x.serve(0, 1));
        });
    }

    private static void notOfferedCopies() {
        Edge.of(18, NOT_OFFERED, "no copy is there, all are served, all others lend", () -> {
            House none = House.withGroups(1);
            none.addTitle(1, 12, 5, 0, 0, 0, 0);
            Check.state("no copy", none, h -> h.serve(0, 0));
            House served = withTitles(2, 5);
            served.serve(0, 0);
            Check.state("served", served, h -> h.serve(1, 0));
            House lends = Scenes.shelf(2, 0, 4, 3, 3);
            lends.serve(0, 0);
            Check.state("lends", lends, h -> h.serve(1, 0));
        });
        Edge.of(18, "No game is served that lacks a piece.", "one piece is nowhere, of each kind", () -> {
            for (int kind = 0; kind < 4; kind++) {
                House x = Scenes.shelf(1, kind, 9, 8);
                Check.state("serve", x, h -> h.serve(0, 0));
                x.found(0, kind, 1);
                Check.due("serve", 0, x.serve(0, 0));
                Check.due("pieces", 9, x.pieces(0, kind));
            }
        });
        Edge.of(18, "No game is served that lacks a piece.", "the last piece is lent", () -> {
            for (int kind = 0; kind < 4; kind++) {
                House x = Scenes.shelf(1, kind, 9, 8, 1);
                Check.due("serve", 0, x.serve(0, 0));
                Check.due("pieces", 9, x.pieces(0, kind));
                Check.due("pieces of the lender", 0, x.pieces(1, kind));
            }
        });
        Edge.of(18, "No game is served that lacks a piece.", "pieces of all kinds are lent", () -> {
            House x = Scenes.fourKinds();
            Check.due("serve", 0, x.serve(0, 0));
            for (int kind = 0; kind < 4; kind++) {
                Check.due("pieces", 2, x.pieces(0, kind));
            }
        });
        Edge.of(18, "No game is served that lacks a piece.", "a title without pieces lacks none", () -> {
            House x = House.withGroups(1);
            x.addTitle(1, 12, 5, 0, 0, 0, 0);
            x.addCopy(0);
            Check.due("serve", 0, x.serve(0, 0));
        });
    }

    private static void several() {
        Edge.of(18, NO_TITLE, "neither group nor title", () ->
            Check.noSuch("serve", 2, withTitles(2, 5, 5), (h, number) -> h.serve(number, number)));
        Edge.of(18, SEVERAL, "no title, to one with a copy, one that waits, one that has left", () -> {
            House x = withTitles(1, 5);
            x.arrive(6, 600);
            x.arrive(6, 600);
            x.leave(2);
            x.serve(0, 0);
            for (int group = 0; group < 3; group++) {
                int to = group;
                Check.noSuch("no title", 1, x, (h, title) -> h.serve(to, title));
            }
        });
        Edge.of(18, SEVERAL, "a title that is offered to nobody, to no group", () -> {
            House x = House.withGroups(1);
            x.addTitle(1, 12, 5, 0, 0, 0, 0);
            Check.noSuch("no group", 1, x, (h, group) -> h.serve(group, 0));
        });
    }
}
