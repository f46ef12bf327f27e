/** Edges of promises 25 and 26: the tests of rules, and which rule decides. */
final class RulingEdges {
    private static final int NONE = Meeplehouse.NONE;
    private static final int PLAYERS = Meeplehouse.PLAYERS;
    private static final int HURRY = Meeplehouse.HURRY;
    private static final int SHARE = Meeplehouse.SHARE;
    private static final int LENT = Meeplehouse.LENT;
    private static final String TESTS = "The tests are: PLAYERS, the group has at least so many players as the value;"
        + " HURRY, its minutes left are fewer than the value; SHARE, the value divides its players without rest; LENT,"
        + " the copy that it has has loans of at least as many pieces, of all kinds together, as the value.";
    private static final String DECIDES = "The ruling for a group that has a copy is that of the first chief rule of the"
        + " book of its title whose test holds, by number: it is the ruling of the rule itself, if no test of its"
        + " exceptions holds, otherwise that of the first of these whose test holds, told in the same way (by its own"
        + " exceptions); NONE if no test of a chief rule holds.";
    private static final String FROM_BELOW = "Returns the same, found from the rules up: a rule decides if its test"
        + " holds, those of all rules above it hold, no rule beside one of these and ahead of it, or beside itself and"
        + " ahead of it, has a test that holds, and no test of an exception of it holds.";
    private static final String NO_COPY = "Throws `IllegalStateException` if it has no copy";
    private static final String SEVERAL = "If several apply, the one that is named first in the throws clause is"
        + " thrown; a call that throws changes nothing.";

    private RulingEdges() {
    }

    static void run() {
        both(25, House::ruling);
        both(26, House::rulingFromBelow);
        none(25, House::ruling, "Returns the ruling; NONE if no test of a chief rule holds.");
        none(26, House::rulingFromBelow, "Returns the ruling; NONE if no rule decides.");
        Edge.of(25, "Returns the ruling for a group, found by going down the rule book.",
            "all books of five rules and all tests that may hold", () -> allBooks(House::ruling));
        Edge.of(26, FROM_BELOW, "all books of five rules and all tests that may hold", () ->
            allBooks(House::rulingFromBelow));
    }

    private static void both(int promise, Check.Numbered asked) {
        players(promise, asked);
        hurry(promise, asked);
        share(promise, asked);
        lent(promise, asked);
        lentBefore(promise, asked);
        first(promise, asked);
        exceptions(promise, asked);
        deep(promise, asked);
        books(promise, asked);
        refused(promise, asked);
    }

    /** A group of so many players that has a copy of the only title. */
    private static House playing(int players) {
        House house = House.withTables(6, 6, 6);
        house.addTitle(1, 12, 5, 2, 0, 0, 0);
        house.addCopy(0);
        house.arrive(players, 600);
        house.serve(0, 0);
        return house;
    }

    /** The answer with one chief rule: 7 if its test holds, NONE if not. */
    private static void holds(Check.Numbered asked, House house, int test, int value, boolean due) {
        house.addRule(0, NONE, test, value, 7);
        Check.due("test " + test + " value " + value, due ? 7 : NONE, asked.on(house, 0));
    }

    private static void players(int promise, Check.Numbered asked) {
        Edge.of(promise, TESTS, "PLAYERS, one fewer than the value, as many, one more", () -> {
            for (int value = 2; value <= 11; value++) {
                holds(asked, playing(value - 1), PLAYERS, value, false);
                holds(asked, playing(value), PLAYERS, value, true);
                holds(asked, playing(value + 1), PLAYERS, value, true);
            }
        });
        Edge.of(promise, TESTS, "PLAYERS, the smallest and the largest value, the smallest and the largest group", () -> {
            holds(asked, playing(1), PLAYERS, 1, true);
            holds(asked, playing(12), PLAYERS, 12, true);
            holds(asked, playing(12), PLAYERS, 13, false);
            holds(asked, playing(12), PLAYERS, 300, false);
        });
    }

    private static void hurry(int promise, Check.Numbered asked) {
        Edge.of(promise, TESTS, "HURRY, one minute more than the value is left, as many, one fewer", () -> {
            House x = playing(6);
            x.addRule(0, NONE, HURRY, 300, 7);
            x.pass(299);
            Check.due("301 left", NONE, asked.on(x, 0));
            x.pass(1);
            Check.due("300 left", NONE, asked.on(x, 0));
            x.pass(1);
            Check.due("299 left", 7, asked.on(x, 0));
        });
        Edge.of(promise, TESTS, "HURRY, the smallest value, one minute, none, and long after", () -> {
            House x = playing(6);
            x.addRule(0, NONE, HURRY, 1, 7);
            x.pass(500);
            x.pass(99);
            Check.due("1 left", NONE, asked.on(x, 0));
            x.pass(1);
            Check.due("none left", 7, asked.on(x, 0));
            x.pass(500);
            Check.due("it stays on", 7, asked.on(x, 0));
        });
    }

    private static void share(int promise, Check.Numbered asked) {
        Edge.of(promise, TESTS, "SHARE, each number of players and each value to one above", () -> {
            for (int players = 1; players <= 12; players++) {
                for (int value = 1; value <= 13; value++) {
                    holds(asked, playing(players), SHARE, value, players - players / value * value == 0);
                }
            }
        });
        Edge.of(promise, TESTS, "SHARE, the largest value, and one that the players divide", () -> {
            holds(asked, playing(12), SHARE, 300, false);
            holds(asked, playing(12), SHARE, 24, false);
            holds(asked, playing(1), SHARE, 300, false);
        });
    }

    private static void lent(int promise, Check.Numbered asked) {
        Edge.of(promise, TESTS, "LENT, no loans and the smallest value", () ->
            holds(asked, playing(6), LENT, 1, false));
        Edge.of(promise, TESTS, "LENT, one piece fewer than the value, as many, one more", () -> {
            for (int many = 1; many <= 8; many++) {
                holds(asked, borrowing(many), LENT, many + 1, false);
                holds(asked, borrowing(many), LENT, many, true);
                holds(asked, borrowing(many), LENT, many == 1 ? 1 : many - 1, true);
                holds(asked, borrowing(many), LENT, 300, false);
            }
        });
        Edge.of(promise, TESTS, "LENT, of several lenders together", () -> {
            House x = Scenes.shelf(1, 2, 9, 0, 1, 1, 1, 1, 1, 1, 1, 1, 1);
            x.serve(0, 0);
            x.addRule(0, NONE, LENT, 9, 8);
            Check.due("eight", NONE, asked.on(x, 0));
            x.addRule(0, NONE, LENT, 8, 9);
            Check.due("eight", 9, asked.on(x, 0));
        });
        Edge.of(promise, TESTS, "LENT, of all kinds together", () -> {
            House x = Scenes.fourKinds();
            x.serve(0, 0);
            x.addRule(0, NONE, LENT, 5, 8);
            Check.due("four", NONE, asked.on(x, 0));
            x.addRule(0, NONE, LENT, 4, 9);
            Check.due("four", 9, asked.on(x, 0));
        });
    }

    /** A group with a copy that has borrowed so many pieces of nine, 1 to 8, from one other. */
    private static House borrowing(int many) {
        House house = Scenes.shelf(1, 0, 9, 9 - many, 8);
        Check.due("the copy that borrows", 0, house.serve(0, 0));
        return house;
    }

    private static void lentBefore(int promise, Check.Numbered asked) {
        Edge.of(promise, TESTS, "LENT, what was lent before it came back does not count", () -> {
            House x = Scenes.shelf(1, 0, 4, 2, 3);
            x.addRule(0, NONE, LENT, 1, 7);
            x.serve(0, 0);
            Check.due("it has loans", 7, asked.on(x, 0));
            x.giveBack(0, 0, 0);
            x.found(0, 0, 2);
            x.serve(0, 0);
            Check.due("it has none", NONE, asked.on(x, 0));
        });
        Edge.of(promise, TESTS, "LENT, the first copy lends to the last", () -> {
            House x = Scenes.shelf(1, 0, 4, 2, 1, 2);
            x.addRule(0, NONE, LENT, 2, 7);
            x.addRule(0, 0, LENT, 3, 8);
            Check.due("serve", 2, x.serve(0, 0));
            Check.due("two pieces", 7, asked.on(x, 0));
        });
        Edge.of(promise, TESTS, "LENT, a lender that lends another kind than before", () -> {
            House x = Scenes.fourKinds();
            for (int value = 1; value <= 4; value++) {
                x.addRule(0, value - 2, LENT, value, value);
            }
            for (int kind = 0; kind < 4; kind++) {
                x.serve(0, 0);
                Check.due("one kind less each time", 4 - kind, asked.on(x, 0));
                Check.due("giveBack", 4 - kind, x.giveBack(0, 0, 0));
                x.found(0, kind, 1);
            }
        });
        Edge.of(promise, TESTS, "LENT, another copy's loans do not count", () -> {
            House x = Scenes.shelf(2, 0, 4, 3, 3, 4);
            x.addRule(0, NONE, LENT, 1, 7);
            Check.due("the whole one", 2, x.serve(0, 0));
            Check.due("the one that borrows", 0, x.serve(1, 0));
            Check.due("the whole one", NONE, asked.on(x, 0));
            Check.due("the one that borrows", 7, asked.on(x, 1));
        });
    }

    private static void first(int promise, Check.Numbered asked) {
        Edge.of(promise, DECIDES, "the first of twelve chief rules, and the last", () -> {
            House all = playing(6);
            House last = playing(6);
            for (int rule = 0; rule < 12; rule++) {
                all.addRule(0, NONE, PLAYERS, 6, rule);
                last.addRule(0, NONE, PLAYERS, rule == 11 ? 6 : 7, rule);
            }
            Check.due("the first", 0, asked.on(all, 0));
            Check.due("the last", 11, asked.on(last, 0));
        });
        Edge.of(promise, DECIDES, "the first of eleven exceptions, and the last", () -> {
            House all = playing(6);
            House last = playing(6);
            all.addRule(0, NONE, PLAYERS, 6, 0);
            last.addRule(0, NONE, PLAYERS, 6, 0);
            for (int rule = 1; rule < 12; rule++) {
                all.addRule(0, 0, PLAYERS, 6, rule);
                last.addRule(0, 0, PLAYERS, rule == 11 ? 6 : 7, rule);
            }
            Check.due("the first", 1, asked.on(all, 0));
            Check.due("the last", 11, asked.on(last, 0));
        });
        Edge.of(promise, DECIDES, "a later chief rule has an exception that holds", () -> {
            House x = playing(6);
            x.addRule(0, NONE, PLAYERS, 7, 1);
            x.addRule(0, NONE, PLAYERS, 6, 2);
            x.addRule(0, NONE, PLAYERS, 5, 3);
            x.addRule(0, 2, PLAYERS, 1, 4);
            x.addRule(0, 0, PLAYERS, 1, 5);
            Check.due("the first that holds", 2, asked.on(x, 0));
        });
    }

    private static void exceptions(int promise, Check.Numbered asked) {
        Edge.of(promise, DECIDES, "no test of its exceptions holds", () -> {
            House x = playing(6);
            x.addRule(0, NONE, PLAYERS, 6, 1);
            x.addRule(0, 0, PLAYERS, 7, 2);
            x.addRule(0, 1, PLAYERS, 1, 3);
            Check.due("the rule itself, though an exception of one that does not hold does", 1, asked.on(x, 0));
        });
        Edge.of(promise, DECIDES, "the first that holds has no exceptions, a later one has", () -> {
            House x = playing(6);
            x.addRule(0, NONE, PLAYERS, 6, 1);
            x.addRule(0, 0, PLAYERS, 6, 2);
            x.addRule(0, 0, PLAYERS, 6, 3);
            x.addRule(0, 2, PLAYERS, 6, 4);
            Check.due("the first exception", 2, asked.on(x, 0));
        });
        Edge.of(promise, DECIDES, "an exception of the first chief rule that is the last of the book", () -> {
            House x = playing(6);
            x.addRule(0, NONE, PLAYERS, 6, 1);
            x.addRule(0, NONE, PLAYERS, 6, 2);
            x.addRule(0, 1, PLAYERS, 6, 3);
            x.addRule(0, 0, PLAYERS, 6, 4);
            Check.due("by its own exceptions", 4, asked.on(x, 0));
        });
    }

    private static void deep(int promise, Check.Numbered asked) {
        Edge.of(promise, DECIDES, "twelve deep, and the test holds of so many from above", () -> {
            for (int many = 0; many <= 12; many++) {
                House x = playing(6);
                for (int rule = 0; rule < 12; rule++) {
                    x.addRule(0, rule - 1, PLAYERS, rule < many ? 6 : 7, rule);
                }
                Check.due("of " + many, many - 1, asked.on(x, 0));
            }
        });
        Edge.of(promise, DECIDES, "twelve deep, and all tests hold but one", () -> {
            for (int but = 0; but < 12; but++) {
                House x = playing(6);
                for (int rule = 0; rule < 12; rule++) {
                    x.addRule(0, rule - 1, PLAYERS, rule == but ? 7 : 6, rule);
                }
                Check.due("but " + but, but - 1, asked.on(x, 0));
            }
        });
    }

    private static void books(int promise, Check.Numbered asked) {
        Edge.of(promise, DECIDES, "the book of its title, the first and the last of eight", () -> {
            House x = House.withGroups(2);
            for (int title = 0; title < 8; title++) {
                x.addTitle(1, 12, 5, 1, 0, 0, 0);
                x.addCopy(title);
                for (int rule = 0; rule < 12; rule++) {
                    x.addRule(title, rule - 1, PLAYERS, 6, title * 12 + rule);
                }
            }
            x.serve(0, 7);
            x.serve(1, 0);
            Check.due("the last", 95, asked.on(x, 0));
            Check.due("the first", 11, asked.on(x, 1));
        });
        Edge.of(promise, DECIDES, "the last rule of the last book, the test of no other holds", () -> {
            House x = House.withGroups(1);
            for (int title = 0; title < 8; title++) {
                x.addTitle(1, 12, 5, 1, 0, 0, 0);
            }
            x.addCopy(7);
            for (int rule = 0; rule < 12; rule++) {
                x.addRule(7, NONE, rule % 3, rule == 11 ? 6 : rule % 3 == HURRY ? 300 : 7, rule);
            }
            x.serve(0, 7);
            Check.due("the last", 11, asked.on(x, 0));
        });
        Edge.of(promise, DECIDES, "a rule that was refused does not decide", () -> {
            House x = playing(6);
            Check.argument("ruling 100", x, h -> h.addRule(0, NONE, PLAYERS, 1, 100));
            Check.due("no rule", NONE, asked.on(x, 0));
        });
    }

    private static void none(int promise, Check.Numbered asked, String sentence) {
        Edge.of(promise, sentence, "a book without rules", () -> Check.due("no rule", NONE, asked.on(playing(6), 0)));
        Edge.of(promise, sentence, "no chief rule holds, but all their exceptions", () -> {
            House x = playing(6);
            x.addRule(0, NONE, PLAYERS, 7, 1);
            for (int rule = 1; rule < 12; rule++) {
                x.addRule(0, rule - 1, PLAYERS, 1, rule);
            }
            Check.due("none", NONE, asked.on(x, 0));
        });
        Edge.of(promise, sentence, "a ruling 0 is one", () -> {
            House x = playing(6);
            x.addRule(0, NONE, PLAYERS, 1, 0);
            Check.due("ruling 0", 0, asked.on(x, 0));
        });
    }

    private static void refused(int promise, Check.Numbered asked) {
        Edge.of(promise, NO_COPY, "it had none yet, and has given it back", () -> {
            House x = House.withGroups(1);
            x.addTitle(1, 12, 5, 0, 0, 0, 0);
            x.addCopy(0);
            x.addRule(0, NONE, PLAYERS, 1, 0);
            Check.state("it had none yet", x, h -> asked.on(h, 0));
            x.serve(0, 0);
            Check.due("it has one", 0, asked.on(x, 0));
            x.giveBack(0, 0, 0);
            Check.state("it has given it back", x, h -> asked.on(h, 0));
        });
        Edge.of(promise, NO_COPY, "it waits, and has left", () -> {
            House x = playing(6);
            x.arrive(12, 10);
            Check.state("it waits", x, h -> asked.on(h, 1));
            x.leave(1);
            Check.state("it has left the queue", x, h -> asked.on(h, 1));
            x.giveBack(0, 0, 0);
            x.leave(0);
            Check.state("it has left its table", x, h -> asked.on(h, 0));
        });
        Edge.of(promise, SEVERAL, "no group, in a house where nobody has a copy", () ->
            Check.noSuch("no group", 1, House.withGroups(1), asked));
    }

    /** All books of five rules, by the parents of the rules, and all sets of tests that hold. */
    private static void allBooks(Check.Numbered asked) {
        for (int book = 0; book < 120; book++) {
            int[] parents = {NONE, book % 2 - 1, book / 2 % 3 - 1, book / 6 % 4 - 1, book / 24 - 1};
            for (int holding = 0; holding < 32; holding++) {
                House x = playing(6);
                for (int rule = 0; rule < 5; rule++) {
                    x.addRule(0, parents[rule], PLAYERS, (holding >> rule & 1) == 1 ? 6 : 7, rule + 10);
                }
                int decides = decides(parents, holding, NONE);
                Check.due("book " + book + " holding " + holding, decides == NONE ? NONE : decides + 10, asked.on(x, 0));
            }
        }
    }

    private static int decides(int[] parents, int holding, int parent) {
        for (int rule = 0; rule < parents.length; rule++) {
            if (parents[rule] == parent && (holding >> rule & 1) == 1) {
                return decides(parents, holding, rule);
            }
        }
        return parent;
    }
}
