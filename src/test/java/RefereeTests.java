/** Promises 7 and 25 to 27: rule books and rulings. */
public final class RefereeTests {
    private static final int NONE = Meeplehouse.NONE;
    private static final int PLAYERS = Meeplehouse.PLAYERS;
    private static final int HURRY = Meeplehouse.HURRY;
    private static final int SHARE = Meeplehouse.SHARE;
    private static final int LENT = Meeplehouse.LENT;

    private RefereeTests() {
    }

    public static void main(String[] args) {
        promise7();
        promise25();
        promise25Tests();
        promise25Lent();
        promise25Order();
        promise25Deep();
        promise27();
        Check.end();
    }

    /** A group of so many players that stays so long and has a copy of the only title. */
    private static House playing(int players, int minutes) {
        House house = House.withTables(6, 6, 6);
        house.addTitle(1, 12, 5, 2, 0, 0, 0);
        house.addCopy(0);
        house.arrive(players, minutes);
        house.serve(0, 0);
        return house;
    }

    private static void rulings(String what, int due, House house, int group) {
        Check.due(what + ", ruling", due, house.ruling(group));
        Check.due(what + ", rulingFromBelow", due, house.rulingFromBelow(group));
    }

    private static void promise7() {
        Check.part("promise 7");
        House x = new House();
        x.addTitle(1, 12, 5, 0, 0, 0, 0);
        x.addTitle(1, 12, 5, 0, 0, 0, 0);
        for (int title : new int[] {-1, 2, Integer.MAX_VALUE, Integer.MIN_VALUE}) {
            Check.index("title " + title, x, h -> h.addRule(title, NONE, PLAYERS, 1, 0));
        }
        Check.due("chief", 0, x.addRule(0, NONE, PLAYERS, 1, 0));
        Check.due("exception", 1, x.addRule(0, 0, LENT, 300, 99));
        for (int parent : new int[] {-2, 2, Integer.MAX_VALUE, Integer.MIN_VALUE}) {
            Check.index("parent " + parent, x, h -> h.addRule(0, parent, PLAYERS, 1, 0));
        }
        Check.index("the parent is not of this book", x, h -> h.addRule(1, 0, PLAYERS, 1, 0));
        int[][] wrong = {{-1, 1, 0}, {4, 1, 0}, {0, 0, 0}, {0, 301, 0}, {0, 1, -1}, {0, 1, 100},
            {Integer.MAX_VALUE, Integer.MIN_VALUE, Integer.MAX_VALUE}};
        for (int[] a : wrong) {
            Check.argument("wrong", x, h -> h.addRule(0, NONE, a[0], a[1], a[2]));
            Check.index("wrong, of no title: the index first", x, h -> h.addRule(2, NONE, a[0], a[1], a[2]));
            Check.index("wrong, of no parent: the index first", x, h -> h.addRule(0, 2, a[0], a[1], a[2]));
        }
        for (int rule = 2; rule < 12; rule++) {
            Check.due("addRule", rule, x.addRule(0, rule - 1, rule % 4, rule, rule));
        }
        Check.state("a thirteenth rule", x, h -> h.addRule(0, NONE, PLAYERS, 1, 0));
        Check.argument("a thirteenth, wrong: the argument first", x, h -> h.addRule(0, NONE, 4, 1, 0));
        Check.index("a thirteenth, of no parent: the index first", x, h -> h.addRule(0, 12, PLAYERS, 1, 0));
        Check.due("another book has its own numbers", 0, x.addRule(1, NONE, PLAYERS, 1, 0));
    }

    private static void promise25() {
        Check.part("promises 25 and 26");
        House x = House.withTables(6);
        x.addTitle(1, 12, 5, 0, 0, 0, 0);
        x.addCopy(0);
        Check.index("ruling(0)", x, h -> h.ruling(0));
        Check.index("rulingFromBelow(0)", x, h -> h.rulingFromBelow(0));
        x.arrive(4, 100);
        x.arrive(4, 100);
        Check.index("ruling(-1)", x, h -> h.ruling(-1));
        Check.index("rulingFromBelow(2)", x, h -> h.rulingFromBelow(2));
        Check.state("ruling without a copy", x, h -> h.ruling(0));
        Check.state("rulingFromBelow without a copy", x, h -> h.rulingFromBelow(0));
        Check.state("ruling of one that waits", x, h -> h.ruling(1));
        Check.state("rulingFromBelow of one that waits", x, h -> h.rulingFromBelow(1));
        x.serve(0, 0);
        rulings("without rules", NONE, x, 0);
        x.addRule(0, NONE, PLAYERS, 5, 1);
        rulings("no test holds", NONE, x, 0);
        x.addRule(0, 0, PLAYERS, 1, 2);
        rulings("an exception of a rule that does not hold", NONE, x, 0);
        x.addRule(0, NONE, PLAYERS, 4, 0);
        rulings("a ruling 0", 0, x, 0);
        x.addRule(0, 2, HURRY, 100, 3);
        rulings("its exception does not hold", 0, x, 0);
        x.pass(1);
        rulings("its exception holds", 3, x, 0);
        x.giveBack(0, 0, 0);
        Check.state("after it came back", x, h -> h.ruling(0));
        Check.state("after it came back", x, h -> h.rulingFromBelow(0));
    }

    private static void promise25Tests() {
        Check.part("promises 25 and 26, the tests");
        for (int players = 1; players <= 12; players++) {
            for (int value = 1; value <= 13; value++) {
                House atLeast = playing(players, 60);
                atLeast.addRule(0, NONE, PLAYERS, value, 7);
                rulings("PLAYERS " + players + " " + value, players >= value ? 7 : NONE, atLeast, 0);
                House share = playing(players, 60);
                share.addRule(0, NONE, SHARE, value, 7);
                rulings("SHARE " + players + " " + value, players / value * value == players ? 7 : NONE, share, 0);
            }
        }
        House hurry = playing(3, 60);
        hurry.addRule(0, NONE, HURRY, 60, 7);
        rulings("60 are not fewer than 60", NONE, hurry, 0);
        hurry.pass(1);
        rulings("59 are fewer than 60", 7, hurry, 0);
        House over = playing(3, 60);
        over.addRule(0, NONE, HURRY, 1, 7);
        over.pass(59);
        rulings("1 is not fewer than 1", NONE, over, 0);
        over.pass(500);
        rulings("none is fewer than 1", 7, over, 0);
        House lent = playing(3, 60);
        lent.addRule(0, NONE, LENT, 1, 7);
        rulings("no loans", NONE, lent, 0);
    }

    private static void promise25Lent() {
        Check.part("promises 25 and 26, LENT");
        House x = House.withTables(6, 6);
        x.addTitle(1, 12, 5, 3, 3, 0, 0);
        x.addCopy(0);
        x.addCopy(0);
        x.arrive(6, 600);
        for (int value = 1; value <= 6; value++) {
            x.addRule(0, value - 2, LENT, value, value);
        }
        lose(x, 0, 0, 3);
        lose(x, 1, 1, 1);
        Check.due("served", 0, x.serve(0, 0));
        rulings("three pieces are lent", 3, x, 0);
        x.giveBack(0, 1, 2);
        Check.due("served", 0, x.serve(0, 0));
        rulings("three pieces of a kind and two of another are lent", 5, x, 0);
        x.giveBack(0, 0, 0);
        x.found(0, 0, 3);
        Check.due("served", 0, x.serve(0, 0));
        rulings("what was lent before does not count", 2, x, 0);
        x.giveBack(0, 0, 0);
        x.found(0, 1, 2);
        lose(x, 0, 0, 1);
        Check.due("served", 0, x.serve(0, 0));
        rulings("nor does another kind that was lent before", 1, x, 0);
    }

    private static void lose(House house, int copy, int kind, int lost) {
        Check.due("served to lose", copy, house.serve(0, 0));
        house.giveBack(0, kind, lost);
    }

    private static void promise25Order() {
        Check.part("promises 25 and 26, the order");
        House x = playing(6, 60);
        x.addRule(0, NONE, PLAYERS, 7, 10);
        x.addRule(0, NONE, PLAYERS, 6, 11);
        x.addRule(0, NONE, PLAYERS, 5, 12);
        rulings("the first chief rule that holds", 11, x, 0);
        x.addRule(0, 2, PLAYERS, 1, 13);
        rulings("exceptions of a later chief rule do not matter", 11, x, 0);
        x.addRule(0, 1, SHARE, 4, 14);
        x.addRule(0, 1, SHARE, 3, 15);
        x.addRule(0, 1, SHARE, 2, 16);
        rulings("the first exception that holds", 15, x, 0);
        x.addRule(0, 6, PLAYERS, 1, 17);
        rulings("exceptions of a later exception do not matter", 15, x, 0);
        x.addRule(0, 4, PLAYERS, 1, 18);
        rulings("exceptions of one that does not hold do not matter", 15, x, 0);
        x.addRule(0, 5, HURRY, 60, 19);
        x.addRule(0, 9, PLAYERS, 6, 20);
        rulings("an exception of an exception does not hold", 15, x, 0);
        x.pass(1);
        rulings("an exception of an exception of an exception", 20, x, 0);
        House ahead = playing(6, 60);
        ahead.addRule(0, NONE, PLAYERS, 6, 30);
        ahead.addRule(0, NONE, PLAYERS, 5, 31);
        ahead.addRule(0, 1, PLAYERS, 4, 32);
        ahead.addRule(0, 0, SHARE, 3, 33);
        rulings("the exception of the first, though it was added last", 33, ahead, 0);
        House two = playing(6, 60);
        two.addTitle(1, 12, 5, 0, 0, 0, 0);
        two.addRule(1, NONE, PLAYERS, 1, 5);
        rulings("another title's book does not matter", NONE, two, 0);
        two.addCopy(1);
        two.arrive(2, 60);
        two.serve(1, 1);
        rulings("each group by the book of what it plays", 5, two, 1);
    }

    private static void promise25Deep() {
        Check.part("promises 25 and 26, as deep as a book can be");
        House x = playing(6, 60);
        for (int rule = 0; rule < 12; rule++) {
            x.addRule(0, rule - 1, PLAYERS, 1, rule);
        }
        rulings("all tests hold", 11, x, 0);
        House none = playing(6, 60);
        for (int rule = 0; rule < 12; rule++) {
            none.addRule(0, rule - 1, PLAYERS, rule == 0 ? 7 : 1, rule);
        }
        rulings("all tests hold but that of the chief rule", NONE, none, 0);
    }

    private static void promise27() {
        Check.part("promise 27");
        House x = new House();
        x.addTitle(1, 12, 5, 0, 0, 0, 0);
        x.addTitle(1, 12, 5, 0, 0, 0, 0);
        for (int title : new int[] {-1, 2, Integer.MAX_VALUE, Integer.MIN_VALUE}) {
            Check.index("depth(" + title + ")", x, h -> h.depth(title));
        }
        Check.due("without rules", 0, x.depth(0));
        x.addRule(0, NONE, PLAYERS, 1, 0);
        x.addRule(0, NONE, PLAYERS, 1, 0);
        Check.due("chief rules", 1, x.depth(0));
        x.addRule(0, 0, PLAYERS, 1, 0);
        x.addRule(0, 0, PLAYERS, 1, 0);
        Check.due("exceptions", 2, x.depth(0));
        x.addRule(0, 2, PLAYERS, 1, 0);
        Check.due("exceptions of an exception", 3, x.depth(0));
        x.addRule(0, NONE, PLAYERS, 1, 0);
        Check.due("the greatest", 3, x.depth(0));
        for (int rule = 0; rule < 12; rule++) {
            x.addRule(1, rule - 1, PLAYERS, 1, 0);
            Check.due("a chain", rule + 1, x.depth(1));
        }
        Check.due("the other book", 3, x.depth(0));
    }
}
