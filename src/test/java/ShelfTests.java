/** Promises 5, 6 and 16 to 24: titles, copies, offers and loans. */
public final class ShelfTests {
    private static final int BIG = Integer.MAX_VALUE;
    private static final int SMALL = Integer.MIN_VALUE;

    private ShelfTests() {
    }

    public static void main(String[] args) {
        promise5();
        promise6();
        promise16();
        promise16Lending();
        promise17();
        promise18();
        promise18Choice();
        promise18Loans();
        promise19();
        promise19LatestFirst();
        promise19Keeps();
        promise19FirstLends();
        promise20();
        promise21And22();
        promise23();
        promise24();
        Check.end();
    }

    /** Lets the pieces of a copy be lost that is served next, kind by kind. */
    private static void lose(House house, int group, int title, int copy, int... lost) {
        for (int kind = 0; kind < lost.length; kind++) {
            if (lost[kind] > 0) {
                Check.due("served to lose", copy, house.serve(group, title));
                house.giveBack(group, kind, lost[kind]);
            }
        }
    }

    private static void piecesAre(House house, int copy, int... due) {
        for (int kind = 0; kind < 4; kind++) {
            Check.due("pieces(" + copy + ", " + kind + ")", due[kind], house.pieces(copy, kind));
        }
    }

    private static void promise5() {
        Check.part("promise 5");
        House x = new House();
        int[][] wrong = {
            {0, 1, 5, 0, 0, 0, 0}, {13, 13, 5, 0, 0, 0, 0}, {2, 1, 5, 0, 0, 0, 0}, {1, 13, 5, 0, 0, 0, 0},
            {1, 0, 5, 0, 0, 0, 0}, {1, 1, 4, 0, 0, 0, 0}, {1, 1, 301, 0, 0, 0, 0},
            {1, 1, 5, -1, 0, 0, 0}, {1, 1, 5, 10, 0, 0, 0}, {1, 1, 5, 0, -1, 0, 0}, {1, 1, 5, 0, 10, 0, 0},
            {1, 1, 5, 0, 0, -1, 0}, {1, 1, 5, 0, 0, 10, 0}, {1, 1, 5, 0, 0, 0, -1}, {1, 1, 5, 0, 0, 0, 10},
            {SMALL, BIG, SMALL, BIG, SMALL, BIG, SMALL}};
        wrongTitles(x, wrong);
        Check.index("no title was added", x, h -> h.depth(0));
        Check.due("the least of all", 0, x.addTitle(1, 1, 5, 0, 0, 0, 0));
        Check.due("the most of all", 1, x.addTitle(12, 12, 300, 9, 9, 9, 9));
        for (int title = 2; title < 8; title++) {
            Check.due("addTitle", title, x.addTitle(1, 12, 5, 1, 2, 3, 4));
        }
        Check.state("a ninth title", x, h -> h.addTitle(1, 12, 5, 1, 2, 3, 4));
        wrongTitles(x, wrong);
    }

    private static void wrongTitles(House x, int[][] wrong) {
        for (int[] a : wrong) {
            Check.argument("addTitle" + java.util.Arrays.toString(a), x,
                h -> h.addTitle(a[0], a[1], a[2], a[3], a[4], a[5], a[6]));
        }
    }

    private static void promise6() {
        Check.part("promise 6");
        House x = House.withGroups(1);
        x.addTitle(1, 12, 5, 1, 2, 3, 4);
        x.addTitle(1, 12, 5, 9, 0, 9, 0);
        for (int title : new int[] {-1, 2, BIG, SMALL}) {
            Check.index("addCopy(" + title + ")", x, h -> h.addCopy(title));
        }
        for (int copy = 0; copy < 16; copy++) {
            Check.due("addCopy", copy, x.addCopy(copy % 2));
            Check.due("stateOf", Meeplehouse.SHELF, x.stateOf(copy));
            Check.due("lenders", 0, x.lenders(copy));
        }
        piecesAre(x, 0, 1, 2, 3, 4);
        piecesAre(x, 15, 9, 0, 9, 0);
        Check.state("a copy after sixteen", x, h -> h.addCopy(0));
        Check.index("of no title: the index first", x, h -> h.addCopy(2));
    }

    private static void promise16() {
        Check.part("promise 16");
        House x = new House();
        x.addTable(6);
        x.arrive(4, 100);
        x.arrive(4, 100);
        x.addTitle(4, 4, 100, 0, 0, 0, 0);
        x.addTitle(5, 6, 5, 0, 0, 0, 0);
        x.addTitle(1, 3, 5, 0, 0, 0, 0);
        x.addTitle(1, 12, 99, 0, 0, 0, 0);
        x.addTitle(1, 12, 101, 0, 0, 0, 0);
        Check.due("no copies, no offers", 0, x.offers(0));
        for (int title = 0; title < 5; title++) {
            x.addCopy(title);
        }
        Check.due("the players and the minutes that fit", 2, x.offers(0));
        Check.due("one that waits", 0, x.offers(1));
        x.pass(1);
        Check.due("a minute less", 1, x.offers(0));
        x.serve(0, 3);
        Check.due("one that has a copy", 0, x.offers(0));
        x.giveBack(0, 0, 0);
        Check.due("it came back", 1, x.offers(0));
        x.leave(0);
        Check.due("one that has left", 0, x.offers(0));
        Check.due("the one that is seated now", 2, x.offers(1));
        Check.index("offers(2)", x, h -> h.offers(2));
        Check.index("offers(-1)", x, h -> h.offers(-1));
    }

    private static void promise16Lending() {
        Check.part("promise 16, lending");
        House x = House.withGroups(2);
        x.addTitle(1, 12, 5, 3, 0, 0, 0);
        x.addCopy(0);
        x.addCopy(0);
        lose(x, 0, 0, 0, 2);
        lose(x, 0, 0, 1, 1);
        Check.due("1 of 3 and 2 of 3 make a whole", 1, x.offers(0));
        Check.due("served by lending", 0, x.serve(0, 0));
        Check.due("its lender is not on the shelf", 0, x.offers(1));
        x.giveBack(0, 0, 1);
        Check.due("2 and 0 make none", 0, x.offers(1));
        x.addTitle(1, 12, 5, 3, 0, 0, 0);
        x.addCopy(1);
        Check.due("another title's copy does not lend", 1, x.offers(1));
        Check.due("it is itself offered", 1, x.offerAt(1, 0));
        x.addCopy(0);
        Check.due("a whole copy may lend and is offered", 2, x.offers(1));
    }

    private static void promise17() {
        Check.part("promise 17");
        House x = House.withGroups(1);
        int[] minutes = {45, 89, 45, 300, 5, 90};
        for (int title = 0; title < minutes.length; title++) {
            x.addTitle(1, 12, minutes[title], 0, 0, 0, 0);
            x.addCopy(title);
        }
        int[] due = {3, 5, 1, 0, 2, 4};
        Check.due("offers", due.length, x.offers(0));
        for (int place = 0; place < due.length; place++) {
            Check.due("offerAt(0, " + place + ")", due[place], x.offerAt(0, place));
        }
        for (int place : new int[] {-1, 6, BIG, SMALL}) {
            Check.index("offerAt(0, " + place + ")", x, h -> h.offerAt(0, place));
        }
        Check.index("offerAt(1, 0)", x, h -> h.offerAt(1, 0));
        Check.index("offerAt(-1, 0)", x, h -> h.offerAt(-1, 0));
        x.pass(400);
        Check.due("left out: the one that takes too long", 5, x.offerAt(0, 0));
        Check.due("offers", 5, x.offers(0));
        x.serve(0, 5);
        Check.index("nothing is offered to one with a copy", x, h -> h.offerAt(0, 0));
    }

    private static void promise18() {
        Check.part("promise 18");
        House x = House.withGroups(2);
        x.addTitle(1, 12, 5, 1, 0, 0, 0);
        x.addTitle(7, 12, 5, 1, 0, 0, 0);
        x.addCopy(1);
        Check.state("a title without copies", x, h -> h.serve(0, 0));
        Check.state("a title for others", x, h -> h.serve(0, 1));
        x.addCopy(0);
        for (int wrong : new int[] {-1, 2, BIG, SMALL}) {
            Check.index("serve(" + wrong + ", 0)", x, h -> h.serve(wrong, 0));
            Check.index("serve(0, " + wrong + ")", x, h -> h.serve(0, wrong));
        }
        Check.due("serve(0, 0)", 1, x.serve(0, 0));
        Check.due("state", Meeplehouse.SERVED, x.stateOf(1));
        Check.state("one that has a copy", x, h -> h.serve(0, 0));
        Check.state("no copy on the shelf", x, h -> h.serve(1, 0));
        Check.index("no such title, to one that has a copy: the index first", x, h -> h.serve(0, 2));
        x.arrive(6, 600);
        x.addCopy(0);
        Check.state("one that waits", x, h -> h.serve(2, 0));
        x.leave(2);
        Check.state("one that has left", x, h -> h.serve(2, 0));
        x.pass(500);
        x.pass(96);
        Check.state("too late", x, h -> h.serve(1, 0));
    }

    private static void promise18Choice() {
        Check.part("promise 18, which copy");
        House x = House.withGroups(3);
        x.addTitle(1, 12, 5, 2, 2, 0, 0);
        x.addCopy(0);
        lose(x, 0, 0, 0, 1, 0);
        x.addCopy(0);
        x.addCopy(0);
        Check.due("lenders(0)", 1, x.lenders(0));
        Check.due("the one that needs no lender, the lowest", 1, x.serve(0, 0));
        Check.due("the next", 2, x.serve(1, 0));
        Check.state("the last lacks a piece", x, h -> h.serve(2, 0));
        x.giveBack(0, 1, 1);
        Check.due("lenders(1)", 1, x.lenders(1));
        Check.due("lenders(0)", 1, x.lenders(0));
        Check.due("as many lenders: the lowest", 0, x.serve(2, 0));
        Check.due("lent", Meeplehouse.LENDING, x.stateOf(1));
    }

    private static void promise18Loans() {
        Check.part("promise 18, loans");
        House x = House.withGroups(2);
        x.addTitle(1, 12, 5, 3, 2, 0, 1);
        for (int copy = 0; copy < 4; copy++) {
            x.addCopy(0);
        }
        lose(x, 0, 0, 0, 3);
        lose(x, 0, 0, 1, 2);
        lose(x, 0, 0, 2, 1, 0);
        lose(x, 0, 0, 3, 0, 1);
        Check.due("lenders(0)", 2, x.lenders(0));
        Check.due("lenders(1)", 1, x.lenders(1));
        Check.due("lenders(2)", 1, x.lenders(2));
        Check.due("lenders(3)", 1, x.lenders(3));
        Check.due("fewest lenders, lowest number", 1, x.serve(0, 0));
        piecesAre(x, 1, 3, 2, 0, 1);
        piecesAre(x, 2, 0, 2, 0, 1);
        Check.due("state of 2", Meeplehouse.LENDING, x.stateOf(2));
        Check.due("state of 0", Meeplehouse.SHELF, x.stateOf(0));
        Check.due("state of 3", Meeplehouse.SHELF, x.stateOf(3));
        Check.due("one that lends is not there", Meeplehouse.NONE, x.lenders(2));
        Check.due("lenders(0), from 3 alone", 1, x.lenders(0));
        Check.due("as many lenders: 0", 0, x.serve(1, 0));
        piecesAre(x, 0, 3, 2, 0, 1);
        piecesAre(x, 3, 0, 1, 0, 1);
        Check.due("closed", 1, x.giveBack(1, 0, 0));
        piecesAre(x, 0, 0, 2, 0, 1);
        piecesAre(x, 3, 3, 1, 0, 1);
        Check.due("closed", 1, x.giveBack(0, 0, 0));
        piecesAre(x, 1, 1, 2, 0, 1);
        piecesAre(x, 2, 2, 2, 0, 1);
    }

    private static void promise19() {
        Check.part("promise 19");
        House x = House.withGroups(2);
        x.addTitle(1, 12, 5, 3, 0, 0, 9);
        x.addCopy(0);
        Check.state("without a copy", x, h -> h.giveBack(0, 0, 0));
        Check.argument("without a copy, lost 10: the argument first", x, h -> h.giveBack(0, 0, 10));
        Check.index("no such kind, lost 10: the index first", x, h -> h.giveBack(0, 4, 10));
        x.serve(0, 0);
        for (int wrong : new int[] {-1, 4, BIG, SMALL}) {
            Check.index("giveBack(" + wrong + ", 0, 0)", x, h -> h.giveBack(wrong == 4 ? 2 : wrong, 0, 0));
            Check.index("giveBack(0, " + wrong + ", 0)", x, h -> h.giveBack(0, wrong, 0));
        }
        for (int lost : new int[] {-1, 10, BIG, SMALL}) {
            Check.argument("giveBack(0, 0, " + lost + ")", x, h -> h.giveBack(0, 0, lost));
        }
        Check.state("more lost than are there", x, h -> h.giveBack(0, 0, 4));
        Check.state("more lost than none", x, h -> h.giveBack(0, 1, 1));
        Check.due("all nine lost", 0, x.giveBack(0, 3, 9));
        piecesAre(x, 0, 3, 0, 0, 0);
        Check.due("on the shelf", Meeplehouse.SHELF, x.stateOf(0));
        Check.due("no copy", Meeplehouse.NONE, x.copyOf(0));
        Check.state("given back twice", x, h -> h.giveBack(0, 0, 0));
    }

    private static void promise19LatestFirst() {
        Check.part("promise 19, the latest first");
        House x = House.withGroups(1);
        x.addTitle(1, 12, 5, 6, 2, 0, 0);
        for (int copy = 0; copy < 3; copy++) {
            x.addCopy(0);
        }
        lose(x, 0, 0, 0, 4);
        lose(x, 0, 0, 1, 5);
        lose(x, 0, 0, 2, 3);
        Check.due("lenders(0)", 2, x.lenders(0));
        Check.due("lenders(1)", 2, x.lenders(1));
        Check.due("lenders(2)", 2, x.lenders(2));
        Check.due("serve", 0, x.serve(0, 0));
        piecesAre(x, 0, 6, 2, 0, 0);
        piecesAre(x, 1, 0, 2, 0, 0);
        piecesAre(x, 2, 0, 2, 0, 0);
        Check.due("two of six are left, and the latest loan takes them", 2, x.giveBack(0, 0, 4));
        piecesAre(x, 0, 0, 2, 0, 0);
        piecesAre(x, 1, 0, 2, 0, 0);
        piecesAre(x, 2, 2, 2, 0, 0);
        for (int copy = 0; copy < 3; copy++) {
            Check.due("stateOf(" + copy + ")", Meeplehouse.SHELF, x.stateOf(copy));
        }
    }

    private static void promise19Keeps() {
        Check.part("promise 19, it keeps what is left");
        House x = House.withGroups(1);
        x.addTitle(1, 12, 5, 4, 4, 4, 4);
        x.addCopy(0);
        x.addCopy(0);
        lose(x, 0, 0, 0, 1);
        lose(x, 0, 0, 1, 0, 1);
        Check.due("serve", 0, x.serve(0, 0));
        Check.due("one lost, the loan is paid in full", 1, x.giveBack(0, 0, 1));
        piecesAre(x, 0, 2, 4, 4, 4);
        piecesAre(x, 1, 4, 3, 4, 4);
        x.found(0, 0, 2);
        lose(x, 0, 0, 0, 1, 0, 1, 1);
        Check.due("serve", 0, x.serve(0, 0));
        Check.due("a loan for each kind of the one lender", 3, x.giveBack(0, 3, 4));
        piecesAre(x, 0, 3, 4, 3, 0);
        piecesAre(x, 1, 4, 3, 4, 3);
    }

    private static void promise19FirstLends() {
        Check.part("promise 19, the first copy lends");
        House x = House.withGroups(1);
        x.addTitle(1, 12, 5, 4, 0, 0, 0);
        for (int copy = 0; copy < 3; copy++) {
            x.addCopy(0);
        }
        lose(x, 0, 0, 0, 2);
        lose(x, 0, 0, 1, 3);
        lose(x, 0, 0, 2, 2);
        Check.due("lenders(0), 1 of the copy 1 and 1 of the copy 2", 2, x.lenders(0));
        Check.due("lenders(1), 2 of the copy 0 and 1 of the copy 2", 2, x.lenders(1));
        Check.due("lenders(2), 2 of the copy 0", 1, x.lenders(2));
        x.addRule(0, Meeplehouse.NONE, Meeplehouse.LENT, 2, 8);
        Check.due("fewest lenders, though not the lowest number", 2, x.serve(0, 0));
        Check.due("the first lends", Meeplehouse.LENDING, x.stateOf(0));
        Check.due("the second does not", Meeplehouse.SHELF, x.stateOf(1));
        Check.due("ruling", 8, x.ruling(0));
        piecesAre(x, 0, 0, 0, 0, 0);
        piecesAre(x, 2, 4, 0, 0, 0);
        Check.due("closed", 1, x.giveBack(0, 0, 1));
        piecesAre(x, 0, 2, 0, 0, 0);
        piecesAre(x, 2, 1, 0, 0, 0);
        Check.due("the first is back", Meeplehouse.SHELF, x.stateOf(0));
    }

    private static void promise20() {
        Check.part("promise 20");
        House x = House.withGroups(1);
        x.addTitle(1, 12, 5, 9, 1, 0, 0);
        x.addCopy(0);
        lose(x, 0, 0, 0, 9);
        for (int wrong : new int[] {-1, 1, BIG, SMALL}) {
            Check.index("found(" + wrong + ", 0, 1)", x, h -> h.found(wrong, 0, 1));
            Check.index("found(0, " + wrong + ", 1)", x, h -> h.found(0, wrong == 1 ? 4 : wrong, 1));
        }
        for (int many : new int[] {0, -1, 10, BIG, SMALL}) {
            Check.argument("found(0, 0, " + many + ")", x, h -> h.found(0, 0, many));
        }
        Check.index("found(0, 4, 0): the index first", x, h -> h.found(0, 4, 0));
        Check.argument("found(0, 1, 10): the argument first", x, h -> h.found(0, 1, 10));
        Check.state("more than the title has", x, h -> h.found(0, 1, 1));
        Check.state("of a kind that it has not", x, h -> h.found(0, 2, 1));
        Check.due("found(0, 0, 4)", 4, x.found(0, 0, 4));
        Check.state("six more are too many", x, h -> h.found(0, 0, 6));
        Check.due("found(0, 0, 5)", 9, x.found(0, 0, 5));
        Check.state("one more", x, h -> h.found(0, 0, 1));
        x.addCopy(0);
        lose(x, 0, 0, 0, 2);
        lose(x, 0, 0, 1, 0, 1);
        Check.due("serve", 0, x.serve(0, 0));
        Check.state("into one that is served", x, h -> h.found(0, 0, 1));
        Check.state("into one that lends", x, h -> h.found(1, 0, 1));
        x.giveBack(0, 0, 0);
        Check.due("found(1, 1, 1)", 1, x.found(1, 1, 1));
    }

    private static void promise21And22() {
        Check.part("promises 21 and 22");
        House x = House.withGroups(1);
        x.addTitle(1, 12, 5, 9, 1, 0, 4);
        x.addCopy(0);
        piecesAre(x, 0, 9, 1, 0, 4);
        Check.due("stateOf", Meeplehouse.SHELF, x.stateOf(0));
        for (int wrong : new int[] {-1, 1, BIG, SMALL}) {
            Check.index("pieces(" + wrong + ", 0)", x, h -> h.pieces(wrong, 0));
            Check.index("pieces(0, " + wrong + ")", x, h -> h.pieces(0, wrong == 1 ? 4 : wrong));
            Check.index("stateOf(" + wrong + ")", x, h -> h.stateOf(wrong));
        }
        x.serve(0, 0);
        Check.due("stateOf", Meeplehouse.SERVED, x.stateOf(0));
        piecesAre(x, 0, 9, 1, 0, 4);
    }

    private static void promise23() {
        Check.part("promise 23");
        House x = House.withGroups(1);
        x.addTitle(1, 12, 5, 2, 2, 0, 0);
        x.addTitle(1, 12, 5, 2, 2, 0, 0);
        x.addCopy(0);
        for (int wrong : new int[] {-1, 1, BIG, SMALL}) {
            Check.index("lenders(" + wrong + ")", x, h -> h.lenders(wrong));
        }
        Check.due("it lacks nothing", 0, x.lenders(0));
        x.serve(0, 0);
        Check.due("it is served", Meeplehouse.NONE, x.lenders(0));
        x.giveBack(0, 0, 2);
        x.addCopy(1);
        Check.due("a copy of another title does not lend", Meeplehouse.NONE, x.lenders(0));
        x.addCopy(0);
        Check.due("one lender", 1, x.lenders(0));
        lose(x, 0, 0, 2, 1);
        Check.due("not enough", Meeplehouse.NONE, x.lenders(0));
        Check.due("nor the other way", Meeplehouse.NONE, x.lenders(2));
        x.found(0, 0, 1);
        lose(x, 0, 0, 0, 0, 2);
        Check.due("one lender for two kinds counts once", 1, x.lenders(0));
        x.addCopy(0);
        Check.due("those with the lowest numbers first", 1, x.lenders(0));
        lose(x, 0, 0, 3, 0, 1);
        Check.due("all need one lender: the lowest", 0, x.serve(0, 0));
        Check.due("it is served", Meeplehouse.NONE, x.lenders(0));
        Check.due("its lender lends", Meeplehouse.NONE, x.lenders(2));
        Check.due("the rest can not do alone", Meeplehouse.NONE, x.lenders(3));
    }

    private static void promise24() {
        Check.part("promise 24");
        House x = House.withGroups(2);
        x.addTitle(1, 12, 5, 1, 0, 0, 0);
        x.addCopy(0);
        x.addCopy(0);
        Check.due("copyOf(0)", Meeplehouse.NONE, x.copyOf(0));
        x.serve(1, 0);
        Check.due("copyOf(1)", 0, x.copyOf(1));
        x.serve(0, 0);
        Check.due("copyOf(0)", 1, x.copyOf(0));
        x.giveBack(1, 0, 0);
        Check.due("copyOf(1)", Meeplehouse.NONE, x.copyOf(1));
        x.leave(1);
        Check.due("copyOf(1)", Meeplehouse.NONE, x.copyOf(1));
        for (int group : new int[] {-1, 2, BIG, SMALL}) {
            Check.index("copyOf(" + group + ")", x, h -> h.copyOf(group));
        }
    }
}
