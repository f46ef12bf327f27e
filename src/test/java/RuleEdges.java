/** Edges of promises 7 and 27: rule books and how deep they are. */
final class RuleEdges {
    private static final int NONE = Meeplehouse.NONE;
    private static final int PLAYERS = Meeplehouse.PLAYERS;
    private static final int LENT = Meeplehouse.LENT;
    private static final String BOOK = "A title has a rule book of at most 12 rules, numbered from 0.";
    private static final String RULE = "A rule has a test with a value, and a ruling, 0 to 99, and may be an exception"
        + " of an earlier rule of the book; those that are none are chief rules.";
    private static final String PARENT = "`parent`: the rule of which it is an exception; NONE for a chief rule";
    private static final String NO_SUCH = "Throws `IndexOutOfBoundsException` as told, of the title or the parent";
    private static final String RANGE = "Throws `IllegalArgumentException` if test, value or ruling is out of range";
    private static final String TWELVE = "Throws `IllegalStateException` if the book has 12 rules";
    private static final String SEVERAL = "If several apply, the one that is named first in the throws clause is"
        + " thrown; a call that throws changes nothing.";
    private static final String DEEP = "Returns how deep the rule book of a title is: 1 for a chief rule without"
        + " exceptions, 1 more for each exception of an exception.";

    private RuleEdges() {
    }

    static void run() {
        numbers();
        parents();
        parentsRefused();
        ranges();
        twelve();
        several();
        depth();
        depthMost();
    }

    /** Titles with a book of so many chief rules each. */
    private static House books(int... rules) {
        House house = House.withGroups(1);
        for (int title = 0; title < rules.length; title++) {
            house.addTitle(1, 12, 5, 1, 0, 0, 0);
            house.addCopy(title);
            for (int rule = 0; rule < rules[title]; rule++) {
                house.addRule(title, NONE, PLAYERS, 1, rule);
            }
        }
        return house;
    }

    private static void numbers() {
        Edge.of(7, "Returns its number.", "the first, the last and those between", () -> {
            House x = books(0);
            for (int rule = 0; rule < 12; rule++) {
                Check.due("addRule", rule, x.addRule(0, NONE, PLAYERS, 1, 0));
            }
        });
        Edge.of(7, BOOK, "the last of eight titles has its own numbers", () -> {
            House x = books(12, 0, 0, 0, 0, 0, 0, 0);
            Check.due("addRule", 0, x.addRule(7, NONE, PLAYERS, 1, 0));
            Check.due("addRule", 1, x.addRule(7, 0, PLAYERS, 1, 0));
            Check.due("addRule", 0, x.addRule(1, NONE, PLAYERS, 1, 0));
        });
        Edge.of(7, "Adds a rule to the book of a title.", "and to no other, though the book ahead is full", () -> {
            House x = books(12, 0);
            x.serve(0, 1);
            Check.due("ruling", NONE, x.ruling(0));
            Check.due("rulingFromBelow", NONE, x.rulingFromBelow(0));
            x.addRule(1, NONE, PLAYERS, 1, 99);
            Check.due("ruling", 99, x.ruling(0));
            Check.due("rulingFromBelow", 99, x.rulingFromBelow(0));
        });
        Edge.of(7, "Adds a rule to the book of a title.", "while a copy of it is served, lending or not", () -> {
            House x = Scenes.shelf(1, 0, 4, 3, 3);
            x.serve(0, 0);
            Check.due("addRule", 0, x.addRule(0, NONE, LENT, 1, 0));
            Check.due("ruling", 0, x.ruling(0));
        });
    }

    private static void parents() {
        Edge.of(7, PARENT, "NONE", () -> {
            House x = books(1);
            Check.due("addRule", 1, x.addRule(0, -1, PLAYERS, 1, 0));
            Check.due("depth", 1, x.depth(0));
        });
        Edge.of(7, PARENT, "the first and the one just ahead", () -> {
            House x = books(2);
            Check.due("of the first", 2, x.addRule(0, 0, PLAYERS, 1, 0));
            Check.due("depth", 2, x.depth(0));
            Check.due("of the one just ahead", 3, x.addRule(0, 2, PLAYERS, 1, 0));
            Check.due("depth", 3, x.depth(0));
        });
        Edge.of(7, RULE, "the twelfth is an exception of the eleventh", () -> {
            House x = books(11);
            Check.due("addRule", 11, x.addRule(0, 10, PLAYERS, 1, 0));
            Check.due("depth", 2, x.depth(0));
        });
        Edge.of(7, RULE, "the smallest and the largest ruling are told", () -> {
            House x = books(0, 0);
            x.addRule(0, NONE, PLAYERS, 1, 0);
            x.addRule(1, NONE, PLAYERS, 1, 99);
            x.serve(0, 0);
            Check.due("ruling", 0, x.ruling(0));
            x.giveBack(0, 0, 0);
            x.serve(0, 1);
            Check.due("ruling", 99, x.ruling(0));
        });
    }

    private static void parentsRefused() {
        Edge.of(7, NO_SUCH, "its own number, the next, one below NONE", () -> {
            House x = books(3);
            for (int parent : new int[] {3, 4, 11, 12, -2, Integer.MAX_VALUE, Integer.MIN_VALUE}) {
                Check.index("parent " + parent, x, h -> h.addRule(0, parent, PLAYERS, 1, 0));
            }
            Check.due("addRule", 3, x.addRule(0, 2, PLAYERS, 1, 0));
        });
        Edge.of(7, NO_SUCH, "a rule of another book", () -> {
            House x = books(2, 5, 0);
            Check.index("of the book ahead", x, h -> h.addRule(2, 0, PLAYERS, 1, 0));
            Check.index("of the next book", x, h -> h.addRule(0, 2, PLAYERS, 1, 0));
            Check.index("of the next book, the last", x, h -> h.addRule(0, 4, PLAYERS, 1, 0));
        });
        Edge.of(7, "IndexOutOfBoundsException: there is no such group, title, copy, kind, rule or place.",
            "neither title nor parent", () ->
            Check.noSuch("addRule", 2, books(1, 1), (h, number) -> h.addRule(number, number, PLAYERS, 1, 0)));
    }

    private static void ranges() {
        for (int test = PLAYERS; test <= LENT; test++) {
            int one = test;
            Edge.of(7, "`test`: PLAYERS, HURRY, SHARE or LENT", "the test " + test, () ->
                Check.due("addRule", 0, books(0).addRule(0, NONE, one, 1, 0)));
        }
        Edge.of(7, "`value`: 1 to 300", "the smallest and the largest, of each test", () -> {
            House x = books(0);
            for (int test = PLAYERS; test <= LENT; test++) {
                Check.due("addRule", 2 * test, x.addRule(0, NONE, test, 1, 0));
                Check.due("addRule", 2 * test + 1, x.addRule(0, NONE, test, 300, 0));
            }
        });
        Edge.of(7, "`ruling`: 0 to 99", "the smallest and the largest", () -> {
            House x = books(0);
            Check.due("addRule", 0, x.addRule(0, NONE, PLAYERS, 1, 0));
            Check.due("addRule", 1, x.addRule(0, NONE, PLAYERS, 1, 99));
        });
        Edge.of(7, RANGE, "on each side, of a chief rule", () -> outOfRange(books(1), 0, NONE));
        Edge.of(7, RANGE, "on each side, of an exception", () -> outOfRange(books(1), 0, 0));
    }

    private static void outOfRange(House x, int title, int parent) {
        Check.outOfRange("test", PLAYERS, LENT, x, (h, test) -> h.addRule(title, parent, test, 1, 0));
        Check.outOfRange("ruling", 0, 99, x, (h, ruling) -> h.addRule(title, parent, PLAYERS, 1, ruling));
        for (int test = PLAYERS; test <= LENT; test++) {
            int of = test;
            Check.outOfRange("value", 1, 300, x, (h, value) -> h.addRule(title, parent, of, value, 0));
        }
    }

    private static void twelve() {
        Edge.of(7, TWELVE, "the twelfth is not refused, the next is", () -> {
            House x = books(11, 0);
            Check.due("the twelfth", 11, x.addRule(0, NONE, PLAYERS, 1, 0));
            Check.state("the next", x, h -> h.addRule(0, NONE, PLAYERS, 1, 0));
            Check.state("the same again", x, h -> h.addRule(0, NONE, PLAYERS, 1, 0));
            Check.state("an exception of the last", x, h -> h.addRule(0, 11, LENT, 300, 99));
            Check.due("another book", 0, x.addRule(1, NONE, PLAYERS, 1, 0));
        });
        Edge.of(7, TWELVE, "the last of eight books", () -> {
            House x = books(0, 0, 0, 0, 0, 0, 0, 12);
            Check.state("the next", x, h -> h.addRule(7, NONE, PLAYERS, 1, 0));
        });
    }

    private static void several() {
        Edge.of(7, SEVERAL, "no title, out of range", () -> {
            House x = books(12);
            Check.noSuch("title, test 4", 1, x, (h, title) -> h.addRule(title, NONE, 4, 1, 0));
            Check.noSuch("title, value 0", 1, x, (h, title) -> h.addRule(title, NONE, PLAYERS, 0, 0));
            Check.noSuch("title, ruling 100", 1, x, (h, title) -> h.addRule(title, NONE, PLAYERS, 1, 100));
        });
        Edge.of(7, SEVERAL, "no parent, out of range", () -> {
            House x = books(1);
            for (int parent : new int[] {-2, 1}) {
                Check.index("test -1", x, h -> h.addRule(0, parent, -1, 1, 0));
                Check.index("value 301", x, h -> h.addRule(0, parent, PLAYERS, 301, 0));
                Check.index("ruling -1", x, h -> h.addRule(0, parent, PLAYERS, 1, -1));
            }
        });
        Edge.of(7, SEVERAL, "no parent, and the book has 12 rules", () -> {
            House x = books(12);
            for (int parent : new int[] {-2, 12}) {
                Check.index("in range", x, h -> h.addRule(0, parent, PLAYERS, 1, 0));
                Check.index("out of range", x, h -> h.addRule(0, parent, 4, 0, 100));
            }
        });
        Edge.of(7, SEVERAL, "out of range, and the book has 12 rules", () -> outOfRange(books(12), 0, 11));
    }

    private static void depth() {
        String sentence = "Returns the greatest of its rules; 0 without rules.";
        Edge.of(27, sentence, "no rules yet", () -> {
            House x = books(0, 3);
            Check.due("depth", 0, x.depth(0));
            Check.due("the other book", 1, x.depth(1));
        });
        Edge.of(27, sentence, "of the first, and of the last rule", () -> {
            House first = books(12);
            Check.due("chief rules alone", 1, first.depth(0));
            House last = books(10);
            last.addRule(0, NONE, PLAYERS, 1, 0);
            last.addRule(0, 10, PLAYERS, 1, 0);
            Check.due("the last is an exception", 2, last.depth(0));
            House early = books(1);
            early.addRule(0, 0, PLAYERS, 1, 0);
            early.addRule(0, 1, PLAYERS, 1, 0);
            for (int rule = 3; rule < 12; rule++) {
                early.addRule(0, NONE, PLAYERS, 1, 0);
            }
            Check.due("the third is the deepest", 3, early.depth(0));
        });
        Edge.of(27, sentence, "a rule that is refused does not count", () -> {
            House x = books(11);
            x.addRule(0, 10, PLAYERS, 1, 0);
            Check.state("a thirteenth", x, h -> h.addRule(0, 11, PLAYERS, 1, 0));
            Check.due("depth", 2, x.depth(0));
        });
    }

    private static void depthMost() {
        Edge.of(27, DEEP, "one chief rule, one exception, and one of that", () -> {
            House x = books(1);
            Check.due("a chief rule", 1, x.depth(0));
            x.addRule(0, 0, PLAYERS, 1, 0);
            Check.due("an exception", 2, x.depth(0));
            x.addRule(0, 0, PLAYERS, 1, 0);
            Check.due("another exception of the chief rule", 2, x.depth(0));
            x.addRule(0, 2, PLAYERS, 1, 0);
            Check.due("an exception of an exception", 3, x.depth(0));
        });
        Edge.of(27, DEEP, "as deep as a book can be", () -> {
            House x = books(0, 0, 0, 0, 0, 0, 0, 0);
            for (int rule = 0; rule < 12; rule++) {
                x.addRule(7, rule - 1, PLAYERS, 1, 0);
                Check.due("depth", rule + 1, x.depth(7));
            }
            Check.due("the book ahead", 0, x.depth(6));
        });
    }
}
