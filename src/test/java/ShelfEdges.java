/** Edges of promises 5, 6, 20 to 22 and 24: titles, copies, their pieces and where they are. */
final class ShelfEdges {
    private static final int SHELF = Meeplehouse.SHELF;
    private static final int SERVED = Meeplehouse.SERVED;
    private static final int LENDING = Meeplehouse.LENDING;
    private static final String SEVERAL = "If several apply, the one that is named first in the throws clause is"
        + " thrown; a call that throws changes nothing.";
    private static final String TITLE = "Titles are numbered from 0, at most 8; a title is for some players, least and"
        + " most, takes some minutes, and has pieces of four kinds, numbered from 0, some of each.";
    private static final String COPY =
        "Copies are numbered from 0, at most 16; a copy has a title and at first all pieces of it.";
    private static final String PLACE = "A copy is on the SHELF, at first, or SERVED to a group, or LENDING.";
    private static final String FOUND = "Pieces that are found come into a copy on the shelf, but not more than its"
        + " title has.";
    private static final String NOT_FOUND = "Throws `IllegalStateException` if the copy is not on the shelf, or would"
        + " have more than its title";
    private static final String[] KINDS = {"`first`: 0 to 9: how many pieces of the kind 0 it has",
        "`second`: 0 to 9: of the kind 1", "`third`: 0 to 9: of the kind 2", "`fourth`: 0 to 9: of the kind 3"};

    private ShelfEdges() {
    }

    static void run() {
        titlePlayers();
        titleMinutes();
        titlePieces();
        titleNumbers();
        titleRefused();
        copies();
        copiesRefused();
        found();
        foundRefused();
        foundInOrder();
        pieces();
        places();
        copyOf();
    }

    /** How many titles are offered to a group of so many players, if the only one is for least to most. */
    private static int offered(int least, int most, int players) {
        House house = House.withTables(6, 6, 2);
        house.addTitle(least, most, 5, 0, 0, 0, 0);
        house.addCopy(0);
        house.arrive(players, 600);
        return house.offers(0);
    }

    private static void titlePlayers() {
        String least = "`least`: 1 to 12: the least players";
        String most = "`most`: least to 12: the most players";
        Edge.of(5, least, "the smallest", () -> Check.due("offers", 1, offered(1, 12, 1)));
        Edge.of(5, least, "the largest", () -> {
            Check.due("to 12", 1, offered(12, 12, 12));
            Check.due("to 11", 0, offered(12, 12, 11));
        });
        Edge.of(5, most, "the smallest, as many as the least", () -> {
            for (int players = 1; players <= 12; players++) {
                Check.due("to as many", 1, offered(players, players, players));
                Check.due("to one less", 0, players == 1 ? 0 : offered(players, players, players - 1));
                Check.due("to one more", 0, players == 12 ? 0 : offered(players, players, players + 1));
            }
        });
        Edge.of(5, most, "the largest", () -> Check.due("offers", 1, offered(1, 12, 12)));
        Edge.of(5, most, "one less than the least", () -> {
            for (int players = 1; players <= 12; players++) {
                int fewest = players;
                Check.argument("addTitle", new House(), h -> h.addTitle(fewest, fewest - 1, 5, 0, 0, 0, 0));
            }
        });
    }

    private static void titleMinutes() {
        Edge.of(5, "`minutes`: 5 to 300", "the smallest", () -> {
            House x = new House();
            x.addTable(2);
            x.addTitle(1, 12, 5, 0, 0, 0, 0);
            x.addCopy(0);
            x.arrive(1, 10);
            x.pass(5);
            Check.due("5 minutes are left", 1, x.offers(0));
            x.pass(1);
            Check.due("4 minutes are left", 0, x.offers(0));
        });
        Edge.of(5, "`minutes`: 5 to 300", "the largest", () -> {
            House x = new House();
            x.addTable(2);
            x.addTitle(1, 12, 300, 0, 0, 0, 0);
            x.addCopy(0);
            x.arrive(1, 300);
            Check.due("300 minutes are left", 1, x.offers(0));
            x.pass(1);
            Check.due("299 minutes are left", 0, x.offers(0));
        });
    }

    private static void titlePieces() {
        for (int kind = 0; kind < 4; kind++) {
            int[] most = new int[4];
            most[kind] = 9;
            Edge.of(5, KINDS[kind], "the largest, and none of the others", () -> {
                House x = new House();
                Check.due("addTitle", 0, x.addTitle(1, 1, 5, most[0], most[1], most[2], most[3]));
                x.addCopy(0);
                for (int other = 0; other < 4; other++) {
                    Check.due("pieces of the kind " + other, most[other], x.pieces(0, other));
                }
            });
            Edge.of(5, KINDS[kind], "the smallest, and nine of the others", () -> {
                House x = new House();
                Check.due("addTitle", 0, x.addTitle(1, 1, 5, 9 - most[0], 9 - most[1], 9 - most[2], 9 - most[3]));
                x.addCopy(0);
                for (int other = 0; other < 4; other++) {
                    Check.due("pieces of the kind " + other, 9 - most[other], x.pieces(0, other));
                }
            });
        }
    }

    private static void titleNumbers() {
        Edge.of(5, "Adds a title.", "without copies and rules", () -> {
            House x = House.withGroups(1);
            x.addTitle(1, 12, 5, 0, 0, 0, 0);
            Check.due("depth", 0, x.depth(0));
            Check.due("offers", 0, x.offers(0));
        });
        Edge.of(5, "Returns its number.", "the first, the last and those between", () -> {
            House x = new House();
            for (int title = 0; title < 8; title++) {
                Check.due("addTitle", title, x.addTitle(1, 1, 5, 0, 0, 0, 0));
            }
        });
        Edge.of(5, TITLE, "the first and the last of eight have what is theirs", () -> {
            House x = House.withGroups(1);
            x.addTitle(6, 6, 300, 1, 2, 3, 4);
            for (int title = 1; title < 7; title++) {
                x.addTitle(1, 1, 5, 0, 0, 0, 0);
            }
            x.addTitle(1, 12, 5, 9, 8, 7, 6);
            x.addCopy(0);
            x.addCopy(7);
            for (int kind = 0; kind < 4; kind++) {
                Check.due("pieces of the first", 1 + kind, x.pieces(0, kind));
                Check.due("pieces of the last", 9 - kind, x.pieces(1, kind));
            }
            Check.due("offers", 2, x.offers(0));
            Check.due("the first", 0, x.offerAt(0, 0));
            Check.due("the last", 7, x.offerAt(0, 1));
        });
    }

    private static void titleRefused() {
        String range = "Throws `IllegalArgumentException` if an argument is out of range";
        String eight = "Throws `IllegalStateException` if there are 8";
        Edge.of(5, range, "each on each side, at once", () -> titlesOutOfRange(new House()));
        Edge.of(5, range, "each on each side, before the last", () -> titlesOutOfRange(withTitles(7)));
        Edge.of(5, range, "all", () -> {
            Check.argument("too small", new House(), h -> h.addTitle(0, -1, 4, -1, -1, -1, -1));
            Check.argument("too large", new House(), h -> h.addTitle(13, 13, 301, 10, 10, 10, 10));
        });
        Edge.of(5, eight, "the eighth is not refused, the ninth is", () -> {
            House x = withTitles(7);
            Check.due("the eighth", 7, x.addTitle(12, 12, 300, 9, 9, 9, 9));
            Check.state("the ninth", x, h -> h.addTitle(12, 12, 300, 9, 9, 9, 9));
            Check.state("the same again", x, h -> h.addTitle(12, 12, 300, 9, 9, 9, 9));
            Check.state("the least", x, h -> h.addTitle(1, 1, 5, 0, 0, 0, 0));
        });
        Edge.of(5, SEVERAL, "a ninth out of range", () -> titlesOutOfRange(withTitles(8)));
    }

    private static House withTitles(int many) {
        House house = new House();
        for (int title = 0; title < many; title++) {
            house.addTitle(1, 12, 5, title, 0, 0, 9);
        }
        return house;
    }

    private static void titlesOutOfRange(House x) {
        Check.outOfRange("least", 1, 12, x, (h, least) -> h.addTitle(least, 12, 5, 0, 0, 0, 0));
        Check.outOfRange("most", 6, 12, x, (h, most) -> h.addTitle(6, most, 5, 0, 0, 0, 0));
        Check.outOfRange("least and most", 1, 12, x, (h, both) -> h.addTitle(both, both, 5, 0, 0, 0, 0));
        Check.outOfRange("minutes", 5, 300, x, (h, minutes) -> h.addTitle(1, 12, minutes, 0, 0, 0, 0));
        Check.outOfRange("first", 0, 9, x, (h, first) -> h.addTitle(1, 12, 5, first, 0, 0, 0));
        Check.outOfRange("second", 0, 9, x, (h, second) -> h.addTitle(1, 12, 5, 0, second, 0, 0));
        Check.outOfRange("third", 0, 9, x, (h, third) -> h.addTitle(1, 12, 5, 0, 0, third, 0));
        Check.outOfRange("fourth", 0, 9, x, (h, fourth) -> h.addTitle(1, 12, 5, 0, 0, 0, fourth));
    }

    private static void copies() {
        Edge.of(6, "Adds a copy with all pieces, on the shelf.", "of a title without pieces, and of one with nine", () -> {
            House x = new House();
            x.addTitle(1, 12, 5, 0, 0, 0, 0);
            x.addTitle(1, 12, 5, 9, 9, 9, 9);
            x.addCopy(0);
            x.addCopy(1);
            for (int kind = 0; kind < 4; kind++) {
                Scenes.pieces(x, kind, 0, 9);
            }
            Scenes.states(x, SHELF, SHELF);
            Scenes.lenders(x, 0, 0);
        });
        Edge.of(6, "Adds a copy with all pieces, on the shelf.", "though another has lost its own", () -> {
            House x = Scenes.shelf(1, 2, 9, 0);
            Check.due("addCopy", 1, x.addCopy(0));
            Scenes.pieces(x, 2, 0, 9);
        });
        Edge.of(6, "Returns its number.", "the first, the last and those between", () -> {
            House x = withTitles(2);
            for (int copy = 0; copy < 16; copy++) {
                Check.due("addCopy", copy, x.addCopy(copy / 8));
            }
        });
        Edge.of(6, COPY, "the last of sixteen", () -> {
            House x = House.withGroups(1);
            x.addTitle(1, 1, 5, 0, 0, 0, 0);
            x.addTitle(1, 12, 5, 4, 3, 2, 1);
            for (int copy = 0; copy < 15; copy++) {
                x.addCopy(0);
            }
            Check.due("addCopy", 15, x.addCopy(1));
            for (int kind = 0; kind < 4; kind++) {
                Check.due("pieces", 4 - kind, x.pieces(15, kind));
            }
            Check.due("serve", 15, x.serve(0, 1));
        });
    }

    private static void copiesRefused() {
        String sixteen = "Throws `IllegalStateException` if there are 16";
        Edge.of(6, sixteen, "the sixteenth is not refused, the next is", () -> {
            House x = withTitles(2);
            for (int copy = 0; copy < 15; copy++) {
                x.addCopy(0);
            }
            Check.due("the sixteenth", 15, x.addCopy(0));
            Check.state("the next", x, h -> h.addCopy(0));
            Check.state("the same again", x, h -> h.addCopy(0));
            Check.state("of a title that has none", x, h -> h.addCopy(1));
        });
        Edge.of(6, SEVERAL, "a seventeenth of no title", () -> {
            House x = withTitles(2);
            for (int copy = 0; copy < 16; copy++) {
                x.addCopy(copy % 2);
            }
            Check.noSuch("addCopy", 2, x, House::addCopy);
        });
    }

    private static void found() {
        Edge.of(20, "`many`: 1 to 9", "the smallest", () -> Check.due("found", 1, Scenes.shelf(1, 0, 9, 0).found(0, 0, 1)));
        Edge.of(20, "`many`: 1 to 9", "the largest", () -> Check.due("found", 9, Scenes.shelf(1, 0, 9, 0).found(0, 0, 9)));
        Edge.of(20, "Returns how many of the kind it has then.", "the same call again", () -> {
            for (int kind = 0; kind < 4; kind++) {
                House x = Scenes.shelf(1, kind, 9, 1, 0);
                Check.due("found", 4, x.found(0, kind, 3));
                Check.due("found", 7, x.found(0, kind, 3));
                Scenes.pieces(x, kind, 7, 0);
            }
        });
        Edge.of(20, "Puts pieces that are found into a copy.", "into the first and the last of sixteen", () -> {
            House x = Scenes.shelf(1, 1, 2, 0, 0, 0, 0, 0, 0, 0, 0, 0, 0, 0, 0, 0, 0, 0, 0);
            Check.due("found", 2, x.found(15, 1, 2));
            Check.due("found", 1, x.found(0, 1, 1));
            Scenes.pieces(x, 1, 1, 0, 0, 0, 0, 0, 0, 0, 0, 0, 0, 0, 0, 0, 0, 2);
        });
        Edge.of(20, FOUND, "as many as its title has", () -> {
            House x = Scenes.shelf(1, 3, 6, 4);
            Check.due("found", 6, x.found(0, 3, 2));
            Check.due("it lacks nothing", 0, x.lenders(0));
            Check.due("it is offered", 1, x.offers(0));
        });
        Edge.of(20, FOUND, "one more than its title has", () -> {
            House x = Scenes.shelf(1, 3, 6, 4);
            Check.state("found", x, h -> h.found(0, 3, 3));
            Check.due("found", 5, x.found(0, 3, 1));
        });
    }

    private static void foundRefused() {
        Edge.of(20, "Throws `IllegalArgumentException` if many is out of range", "on each side", () -> {
            Check.outOfRange("it has none", 1, 9, Scenes.shelf(1, 0, 9, 0), (h, many) -> h.found(0, 0, many));
            Check.outOfRange("it has some", 1, 9, Scenes.shelf(1, 3, 9, 5), (h, many) -> h.found(0, 3, many));
        });
        Edge.of(20, NOT_FOUND, "one that has all pieces", () -> {
            House x = Scenes.shelf(1, 0, 9, 9);
            Check.state("one piece", x, h -> h.found(0, 0, 1));
            Check.state("nine pieces", x, h -> h.found(0, 0, 9));
            Check.state("of a kind of which its title has none", x, h -> h.found(0, 1, 1));
        });
        Edge.of(20, NOT_FOUND, "it is served, though it has lent pieces and lacks none", () -> {
            House x = Scenes.shelf(1, 0, 4, 2, 3);
            Check.due("serve", 0, x.serve(0, 0));
            Check.state("it is served", x, h -> h.found(0, 0, 1));
            Check.state("it lends", x, h -> h.found(1, 0, 1));
            x.giveBack(0, 0, 0);
            Check.due("it is on the shelf again", 3, x.found(0, 0, 1));
            Check.due("its lender is on the shelf again", 4, x.found(1, 0, 1));
        });
        Edge.of(20, NOT_FOUND, "it lends, though it lacks pieces of each kind", () -> {
            House x = Scenes.fourKinds();
            x.serve(0, 0);
            for (int kind = 0; kind < 4; kind++) {
                int of = kind;
                Check.state("it lends", x, h -> h.found(1, of, 1));
            }
            x.giveBack(0, 0, 0);
            Check.due("found", 2, x.found(1, 1, 1));
        });
    }

    private static void foundInOrder() {
        Edge.of(20, SEVERAL, "no copy or kind, and out of range", () -> {
            House x = Scenes.shelf(1, 0, 4, 4);
            for (int many : new int[] {0, 10}) {
                Check.noSuch("found(copy, 0, " + many + ")", 1, x, (h, copy) -> h.found(copy, 0, many));
                Check.noSuch("found(0, kind, " + many + ")", 4, x, (h, kind) -> h.found(0, kind, many));
                Check.noSuch("both", 4, x, (h, number) -> h.found(number, number, many));
            }
        });
        Edge.of(20, SEVERAL, "out of range, and not on the shelf", () -> {
            House x = Scenes.shelf(1, 0, 4, 3, 3);
            x.serve(0, 0);
            Check.outOfRange("it is served", 1, 9, x, (h, many) -> h.found(0, 0, many));
            Check.outOfRange("it lends", 1, 9, x, (h, many) -> h.found(1, 0, many));
            Check.noSuch("no kind", 4, x, (h, kind) -> h.found(0, kind, 1));
        });
        Edge.of(20, SEVERAL, "out of range, and more than its title has", () ->
            Check.outOfRange("it lacks nothing", 1, 9, Scenes.shelf(1, 0, 9, 9), (h, many) -> h.found(0, 0, many)));
    }

    private static void pieces() {
        String sentence = "Returns how many pieces of a kind a copy has.";
        Edge.of(21, sentence, "none and nine, of the first and the last kind", () -> {
            Scenes.pieces(Scenes.shelf(1, 0, 9, 0, 9), 0, 0, 9);
            Scenes.pieces(Scenes.shelf(1, 3, 9, 0, 9), 3, 0, 9);
        });
        Edge.of(21, sentence, "while it is served and while it lends", () -> {
            House x = Scenes.shelf(1, 2, 9, 1, 8);
            x.serve(0, 0);
            Scenes.pieces(x, 2, 9, 0);
            Scenes.pieces(x, 1, 0, 0);
            x.giveBack(0, 2, 0);
            Scenes.pieces(x, 2, 1, 8);
        });
    }

    private static void places() {
        Edge.of(22, PLACE, "at first, served, given back", () -> {
            House x = House.withGroups(1);
            x.addTitle(1, 12, 5, 0, 0, 0, 0);
            x.addCopy(0);
            Scenes.states(x, SHELF);
            x.serve(0, 0);
            Scenes.states(x, SERVED);
            x.giveBack(0, 0, 0);
            Scenes.states(x, SHELF);
        });
        Edge.of(22, "Returns where a copy is: SHELF, SERVED or LENDING.", "each of the three", () -> {
            House x = Scenes.shelf(1, 0, 4, 3, 3, 3);
            Scenes.states(x, SHELF, SHELF, SHELF);
            x.serve(0, 0);
            Scenes.states(x, SERVED, LENDING, SHELF);
            x.giveBack(0, 0, 4);
            Scenes.states(x, SHELF, SHELF, SHELF);
        });
        Edge.of(22, "Returns where a copy is: SHELF, SERVED or LENDING.", "one that is emptied by lending", () -> {
            House x = Scenes.shelf(1, 0, 4, 3, 1);
            x.serve(0, 0);
            Scenes.pieces(x, 0, 4, 0);
            Scenes.states(x, SERVED, LENDING);
        });
    }

    private static void copyOf() {
        Edge.of(24, "Returns the copy; NONE if it has none.", "it had none yet, waits, has given it back, has left", () -> {
            House x = House.withGroups(1);
            x.arrive(6, 60);
            x.addTitle(1, 12, 5, 0, 0, 0, 0);
            x.addCopy(0);
            Check.due("it had none yet", Meeplehouse.NONE, x.copyOf(0));
            Check.due("it waits", Meeplehouse.NONE, x.copyOf(1));
            x.serve(0, 0);
            Check.due("it has one", 0, x.copyOf(0));
            Check.due("the other has none", Meeplehouse.NONE, x.copyOf(1));
            x.giveBack(0, 0, 0);
            Check.due("it has given it back", Meeplehouse.NONE, x.copyOf(0));
            x.leave(0);
            Check.due("it has left", Meeplehouse.NONE, x.copyOf(0));
        });
        Edge.of(24, "Returns the copy that a group has.", "the first and the last of sixteen", () -> {
            House x = House.withGroups(2);
            x.addTitle(1, 12, 5, 0, 0, 0, 0);
            x.addTitle(1, 12, 5, 0, 0, 0, 0);
            x.addCopy(0);
            for (int copy = 1; copy < 15; copy++) {
                x.addCopy(0);
            }
            x.addCopy(1);
            x.serve(0, 1);
            x.serve(1, 0);
            Check.due("the last", 15, x.copyOf(0));
            Check.due("the first", 0, x.copyOf(1));
        });
        Edge.of(24, "Returns the copy that a group has.", "not one that lends to it", () -> {
            House x = Scenes.shelf(2, 0, 4, 1, 3);
            x.serve(1, 0);
            Check.due("copyOf", 0, x.copyOf(1));
            Check.due("copyOf", Meeplehouse.NONE, x.copyOf(0));
        });
    }
}
