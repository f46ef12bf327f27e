/** Edges of promises 18, 19 and 23: who lends, what is lost, and how loans are closed. */
final class LoanEdges {
    private static final int NONE = Meeplehouse.NONE;
    private static final int SHELF = Meeplehouse.SHELF;
    private static final int SERVED = Meeplehouse.SERVED;
    private static final int LENDING = Meeplehouse.LENDING;
    private static final String COMPLETE = "A copy on the shelf can be made complete from some others: kind by kind,"
        + " for each kind the pieces that it lacks are taken from the other copies of its title that are on the shelf,"
        + " those with the lowest numbers first, from each as many as needed and there; if there are not enough of some"
        + " kind, it cannot be made complete.";
    private static final String ORDER = "What is taken is a loan for each kind and lender, in this order.";
    private static final String LENDERS =
        "The lenders are those who give something; a copy that lacks nothing needs none.";
    private static final String FEWEST = "When a title is served, the copy with the fewest lenders, of several the one"
        + " with the lowest number, is made complete and SERVED, and its lenders are LENDING.";
    private static final String LOST =
        "When it comes back, some pieces of a kind may be lost: they are not in it any more.";
    private static final String CLOSED = "Then its loans are closed, the latest first: as many pieces as were lent, or"
        + " as it still has of that kind, go back to the lender, which is on the shelf again; then it is on the shelf.";
    private static final String NOT_SO_MANY = "Throws `IllegalStateException` if it has no copy, or that has not so many"
        + " pieces of the kind";
    private static final String SEVERAL = "If several apply, the one that is named first in the throws clause is"
        + " thrown; a call that throws changes nothing.";

    private LoanEdges() {
    }

    static void run() {
        complete();
        completeFromWhom();
        completeKinds();
        lenders();
        lendersNone();
        fewest();
        lowest();
        loans();
        lost();
        closed();
        closedByKind();
        keeps();
        refusedState();
        refusedOrder();
    }

    private static void complete() {
        Edge.of(23, COMPLETE, "just enough pieces, and one too few", () -> {
            for (int kind = 0; kind < 4; kind++) {
                Scenes.lenders(Scenes.shelf(1, kind, 9, 4, 5), 1, 1);
                Scenes.lenders(Scenes.shelf(1, kind, 9, 4, 4), NONE, NONE);
                Scenes.lenders(Scenes.shelf(1, kind, 9, 8, 1, 0), 1, 1, 2);
                Scenes.lenders(Scenes.shelf(1, kind, 9, 7, 1, 0), NONE, NONE, NONE);
            }
        });
        Edge.of(23, COMPLETE, "it does not take its own pieces", () -> {
            Scenes.lenders(Scenes.shelf(1, 0, 2, 1), NONE);
            Scenes.lenders(Scenes.shelf(1, 0, 8, 4, 3), NONE, NONE);
        });
        Edge.of(23, COMPLETE, "from each as many as needed and there", () -> {
            House x = Scenes.shelf(1, 0, 6, 1, 2, 2, 2);
            Scenes.lenders(x, 3, 3, 3, 3);
            x.serve(0, 0);
            Scenes.pieces(x, 0, 6, 0, 0, 1);
            Scenes.states(x, SERVED, LENDING, LENDING, LENDING);
        });
        Edge.of(18, COMPLETE, "the lowest numbers first, for the first and for the last copy", () -> {
            House first = Scenes.shelf(1, 0, 3, 2, 2, 2);
            Check.due("serve", 0, first.serve(0, 0));
            Scenes.pieces(first, 0, 3, 1, 2);
            Scenes.states(first, SERVED, LENDING, SHELF);
            House last = Scenes.shelf(1, 0, 4, 2, 1, 2);
            Scenes.lenders(last, 2, 2, 1);
            Check.due("serve", 2, last.serve(0, 0));
            Scenes.pieces(last, 0, 0, 1, 4);
            Scenes.states(last, LENDING, SHELF, SERVED);
        });
    }

    private static void completeFromWhom() {
        Edge.of(23, COMPLETE, "another title's copy does not lend", () -> {
            House x = Scenes.shelf(1, 0, 2, 1);
            Scenes.addTitleOfKind(x, 0, 2);
            x.addCopy(1);
            Scenes.lenders(x, NONE, 0);
            x.addCopy(0);
            Scenes.lenders(x, 1, 0, 0);
        });
        Edge.of(23, COMPLETE, "one that is served does not lend", () -> {
            House x = Scenes.shelf(1, 0, 2, 1, 2);
            Scenes.lenders(x, 1, 0);
            Check.due("serve", 1, x.serve(0, 0));
            Scenes.lenders(x, NONE, NONE);
            x.giveBack(0, 0, 0);
            Scenes.lenders(x, 1, 0);
        });
        Edge.of(23, COMPLETE, "one that lends does not lend to another, though pieces are there", () -> {
            House x = Scenes.shelf(2, 0, 9, 8, 8, 8);
            Scenes.lenders(x, 1, 1, 1);
            Check.due("serve", 0, x.serve(0, 0));
            Scenes.pieces(x, 0, 9, 7, 8);
            Scenes.lenders(x, NONE, NONE, NONE);
            Check.due("offers", 0, x.offers(1));
            x.giveBack(0, 0, 0);
            Scenes.lenders(x, 1, 1, 1);
        });
        Edge.of(23, COMPLETE, "two copies are served by lending from two", () -> {
            House x = Scenes.shelf(2, 0, 9, 8, 8, 8, 8);
            Check.due("serve", 0, x.serve(0, 0));
            Check.due("serve", 2, x.serve(1, 0));
            Scenes.states(x, SERVED, LENDING, SERVED, LENDING);
            Check.due("giveBack", 1, x.giveBack(0, 0, 1));
            Scenes.states(x, SHELF, SHELF, SERVED, LENDING);
            Scenes.pieces(x, 0, 7, 8, 9, 7);
            Check.due("giveBack", 1, x.giveBack(1, 0, 9));
            Scenes.states(x, SHELF, SHELF, SHELF, SHELF);
            Scenes.pieces(x, 0, 7, 8, 0, 7);
        });
    }

    private static void completeKinds() {
        Edge.of(23, COMPLETE, "enough of one kind, but not of another", () -> {
            House x = House.withGroups(1);
            x.addTitle(1, 12, 5, 1, 0, 0, 1);
            x.addCopy(0);
            Scenes.lose(x, 0, 0, 0, 0, 1);
            x.addCopy(0);
            Scenes.lose(x, 0, 0, 1, 3, 1);
            Scenes.lenders(x, 1, 1);
            Scenes.lose(x, 0, 0, 0, 3, 1);
            Scenes.pieces(x, 0, 0, 1);
            Scenes.pieces(x, 3, 0, 0);
            Scenes.lenders(x, NONE, NONE);
            x.found(1, 3, 1);
            Scenes.lenders(x, 1, 0);
        });
        Edge.of(18, COMPLETE, "kind by kind, another lender for each", () -> {
            House x = House.withGroups(1);
            x.addTitle(1, 12, 5, 2, 2, 0, 0);
            x.addCopy(0);
            Scenes.lose(x, 0, 0, 0, 0, 1);
            x.addCopy(0);
            Scenes.lose(x, 0, 0, 1, 0, 2);
            x.addCopy(0);
            Scenes.lose(x, 0, 0, 2, 0, 1);
            Scenes.pieces(x, 0, 1, 0, 1);
            Scenes.lose(x, 0, 0, 0, 1, 1);
            Scenes.lose(x, 0, 0, 2, 1, 2);
            Scenes.pieces(x, 0, 1, 0, 1);
            Scenes.pieces(x, 1, 1, 2, 0);
            Scenes.lenders(x, 2, 2, 2);
            Check.due("serve", 0, x.serve(0, 0));
            Scenes.states(x, SERVED, LENDING, LENDING);
            Scenes.pieces(x, 0, 2, 0, 0);
            Scenes.pieces(x, 1, 2, 1, 0);
            Check.due("giveBack", 2, x.giveBack(0, 2, 0));
        });
    }

    private static void lenders() {
        String sentence = "Returns how many lenders would be needed to make a copy complete.";
        Edge.of(23, LENDERS, "it lacks nothing", () -> {
            Scenes.lenders(Scenes.shelf(1, 0, 9, 9), 0);
            House x = House.withGroups(1);
            x.addTitle(1, 12, 5, 0, 0, 0, 0);
            x.addCopy(0);
            Scenes.lenders(x, 0);
        });
        Edge.of(23, LENDERS, "one that has none of the kind gives nothing", () -> {
            House x = Scenes.shelf(1, 0, 2, 1, 0, 1);
            Scenes.lenders(x, 1, 2, 1);
            Check.due("serve", 0, x.serve(0, 0));
            Scenes.states(x, SERVED, SHELF, LENDING);
        });
        Edge.of(23, LENDERS, "those of which nothing is needed any more give nothing", () -> {
            House x = Scenes.shelf(1, 0, 2, 1, 1, 1, 1, 1, 1, 1, 1, 1, 1, 1, 1, 1, 1, 1, 1);
            for (int copy = 0; copy < 16; copy++) {
                Check.due("lenders", 1, x.lenders(copy));
            }
        });
        Edge.of(23, LENDERS, "one that gives four kinds is one", () -> Scenes.lenders(Scenes.fourKinds(), 1, 1));
        Edge.of(23, sentence, "the most for a kind, nine", () -> {
            Scenes.lenders(Scenes.shelf(1, 0, 9, 0, 1, 1, 1, 1, 1, 1, 1, 1, 1), 9, 8, 8, 8, 8, 8, 8, 8, 8, 8);
            Scenes.lenders(Scenes.shelf(1, 0, 9, 0, 1, 1, 1, 1, 1, 1, 1, 1), NONE, NONE, NONE, NONE, NONE);
        });
        Edge.of(23, sentence, "asking lends nothing", () -> {
            House x = Scenes.shelf(1, 0, 4, 3, 3);
            Check.due("lenders", 1, x.lenders(0));
            Check.due("lenders again", 1, x.lenders(0));
            Scenes.states(x, SHELF, SHELF);
            Scenes.pieces(x, 0, 3, 3);
        });
    }

    private static void lendersNone() {
        String sentence = "Returns how many; NONE if it is not on the shelf or cannot be made complete.";
        Edge.of(23, sentence, "it is served, whole, and came back", () -> {
            House x = Scenes.shelf(1, 0, 4, 4);
            x.serve(0, 0);
            Scenes.lenders(x, NONE);
            x.giveBack(0, 0, 0);
            Scenes.lenders(x, 0);
        });
        Edge.of(23, sentence, "it lends, though it could be made complete by a third", () -> {
            House x = Scenes.shelf(1, 0, 4, 3, 3);
            x.serve(0, 0);
            x.addCopy(0);
            Scenes.lenders(x, NONE, NONE, 0);
        });
        Edge.of(23, sentence, "there is no other copy", () -> Scenes.lenders(Scenes.shelf(1, 3, 9, 8), NONE));
        Edge.of(23, sentence, "a title of several kinds can be short of the last alone", () -> {
            House x = House.withGroups(1);
            x.addTitle(1, 12, 5, 9, 9, 9, 1);
            x.addCopy(0);
            Scenes.lose(x, 0, 0, 0, 3, 1);
            Scenes.lenders(x, NONE);
            x.addCopy(0);
            Scenes.lenders(x, 1, 0);
        });
    }

    private static void fewest() {
        Edge.of(18, FEWEST, "none rather than one, at the end of the row", () -> {
            House x = Scenes.shelf(1, 0, 4, 3, 3, 3, 4);
            Check.due("serve", 3, x.serve(0, 0));
            Scenes.states(x, SHELF, SHELF, SHELF, SERVED);
            Check.due("giveBack", 0, x.giveBack(0, 0, 0));
        });
        Edge.of(18, FEWEST, "one rather than two", () -> {
            House x = Scenes.shelf(1, 0, 4, 2, 1, 3);
            Scenes.lenders(x, 2, 2, 1);
            Check.due("serve", 2, x.serve(0, 0));
            Scenes.states(x, LENDING, SHELF, SERVED);
        });
        Edge.of(18, FEWEST, "eight rather than nine", () -> {
            House x = Scenes.shelf(1, 2, 9, 0, 1, 1, 1, 1, 1, 1, 1, 1, 1);
            Check.due("serve", 1, x.serve(0, 0));
            Scenes.pieces(x, 2, 0, 9, 0, 0, 0, 0, 0, 0, 0, 0);
            Check.due("the first does not lend", SHELF, x.stateOf(0));
            Check.due("the last lends", LENDING, x.stateOf(9));
            Check.due("giveBack", 8, x.giveBack(0, 2, 0));
            Scenes.pieces(x, 2, 0, 1, 1, 1, 1, 1, 1, 1, 1, 1);
        });
        Edge.of(18, FEWEST, "not one that cannot be made complete", () -> {
            House x = Scenes.shelf(1, 0, 4, 3);
            Scenes.addTitleOfKind(x, 0, 4);
            Scenes.addCopies(x, 1, 0, 4, 2, 2);
            Check.state("serve", x, h -> h.serve(0, 0));
            Check.due("serve", 1, x.serve(0, 1));
            Scenes.states(x, SHELF, SERVED, LENDING);
        });
    }

    private static void lowest() {
        Edge.of(18, FEWEST, "of several that lack nothing the lowest", () -> {
            House x = Scenes.shelf(3, 0, 4, 4, 4, 4);
            Check.due("serve", 0, x.serve(2, 0));
            Check.due("serve", 1, x.serve(0, 0));
            Check.due("serve", 2, x.serve(1, 0));
            x.giveBack(0, 0, 0);
            x.giveBack(2, 0, 0);
            Check.due("serve", 0, x.serve(0, 0));
        });
        Edge.of(18, FEWEST, "of several that need one the lowest", () -> {
            House x = Scenes.shelf(1, 0, 4, 0, 3, 3, 3);
            Scenes.lenders(x, 2, 1, 1, 1);
            Check.due("serve", 1, x.serve(0, 0));
            Scenes.states(x, SHELF, SERVED, LENDING, SHELF);
        });
        Edge.of(18, FEWEST, "the last of sixteen", () -> {
            House x = Scenes.shelf(1, 0, 9, 0, 0, 0, 0, 0, 0, 0, 0, 0, 0, 0, 0, 0, 0, 0, 9);
            Check.due("serve", 15, x.serve(0, 0));
        });
    }

    private static void loans() {
        String sentence = "Returns how many loans are closed.";
        Edge.of(19, sentence, "none", () -> {
            House x = Scenes.shelf(1, 0, 4, 4, 3);
            x.serve(0, 0);
            Check.due("giveBack", 0, x.giveBack(0, 0, 4));
        });
        Edge.of(19, sentence, "one", () -> {
            House x = Scenes.shelf(1, 0, 9, 1, 8);
            x.serve(0, 0);
            Check.due("giveBack", 1, x.giveBack(0, 0, 0));
        });
        Edge.of(19, ORDER, "one lender and four kinds", () -> {
            House x = Scenes.fourKinds();
            x.serve(0, 0);
            Check.due("giveBack", 4, x.giveBack(0, 0, 0));
            for (int kind = 0; kind < 4; kind++) {
                Scenes.pieces(x, kind, 1, kind == 1 ? 1 : 2);
            }
            x.serve(0, 0);
            Check.due("the same again", 4, x.giveBack(0, 0, 0));
        });
        Edge.of(19, ORDER, "eight lenders and one kind", () -> {
            House x = Scenes.shelf(1, 3, 9, 0, 1, 1, 1, 1, 1, 1, 1, 1, 1);
            x.serve(0, 0);
            Check.due("giveBack", 8, x.giveBack(0, 3, 0));
        });
        Edge.of(19, ORDER, "two lenders of one kind: the latest is the one with the highest number", () -> {
            House x = Scenes.shelf(1, 0, 4, 2, 1, 1, 0);
            Scenes.lenders(x, 2, 2, 2, 3);
            x.serve(0, 0);
            Check.due("giveBack", 2, x.giveBack(0, 0, 3));
            Scenes.pieces(x, 0, 0, 0, 1, 0);
        });
        Edge.of(19, sentence, "what was closed is not closed again", () -> {
            House x = Scenes.shelf(1, 0, 4, 3, 3);
            x.serve(0, 0);
            Check.due("giveBack", 1, x.giveBack(0, 0, 0));
            x.found(0, 0, 1);
            Check.due("serve", 0, x.serve(0, 0));
            Check.due("giveBack", 0, x.giveBack(0, 0, 0));
            Scenes.pieces(x, 0, 4, 3);
        });
    }

    private static void lost() {
        String range = "`lost`: 0 to 9: how many pieces of the kind are lost";
        for (int kind = 0; kind < 4; kind++) {
            int of = kind;
            Edge.of(19, range, "the smallest, of the kind " + kind, () -> {
                House x = Scenes.shelf(1, of, 9, 9);
                x.serve(0, 0);
                Check.due("giveBack", 0, x.giveBack(0, of, 0));
                Scenes.pieces(x, of, 9);
            });
            Edge.of(19, range, "the largest, of the kind " + kind, () -> {
                House x = Scenes.shelf(1, of, 9, 9);
                x.serve(0, 0);
                Check.due("giveBack", 0, x.giveBack(0, of, 9));
                Scenes.pieces(x, of, 0);
            });
        }
        Edge.of(19, LOST, "none of a kind of which its title has none", () -> {
            House x = Scenes.shelf(1, 0, 9, 9);
            x.serve(0, 0);
            Check.due("giveBack", 0, x.giveBack(0, 3, 0));
            Scenes.pieces(x, 0, 9);
            Scenes.pieces(x, 3, 0);
        });
        Edge.of(19, LOST, "all of one kind, none of the others", () -> {
            House x = House.withGroups(1);
            x.addTitle(1, 12, 5, 5, 6, 7, 8);
            x.addCopy(0);
            Scenes.lose(x, 0, 0, 0, 2, 7);
            Check.due("pieces", 5, x.pieces(0, 0));
            Check.due("pieces", 6, x.pieces(0, 1));
            Check.due("pieces", 0, x.pieces(0, 2));
            Check.due("pieces", 8, x.pieces(0, 3));
        });
        Edge.of(19, "Lets a group give its copy back.", "the last group, the last copy", () -> {
            House x = House.withGroups(10);
            x.addTitle(1, 12, 5, 1, 0, 0, 0);
            for (int group = 0; group < 10; group++) {
                x.addCopy(0);
                x.serve(group, 0);
            }
            Check.due("giveBack", 0, x.giveBack(9, 0, 1));
            Check.due("copyOf", NONE, x.copyOf(9));
            Check.due("the others keep theirs", 8, x.copyOf(8));
            Check.due("pieces", 0, x.pieces(9, 0));
            Check.due("pieces", 1, x.pieces(8, 0));
        });
    }

    /** The copy 0 has 2 of 6 pieces, and 2 each of the copies 1 and 2: what is left for whom, for each loss. */
    private static void closed() {
        int[][] left = {{2, 2, 2}, {1, 2, 2}, {0, 2, 2}, {0, 1, 2}, {0, 0, 2}, {0, 0, 1}, {0, 0, 0}};
        for (int loss = 0; loss <= 6; loss++) {
            int lost = loss;
            Edge.of(19, CLOSED, "six with two loans of two, lost " + loss, () -> {
                for (int kind = 0; kind < 4; kind++) {
                    House x = Scenes.shelf(1, kind, 6, 2, 2, 2);
                    Check.due("serve", 0, x.serve(0, 0));
                    Scenes.pieces(x, kind, 6, 0, 0);
                    Check.due("giveBack", 2, x.giveBack(0, kind, lost));
                    Scenes.pieces(x, kind, left[lost]);
                    Scenes.states(x, SHELF, SHELF, SHELF);
                    Check.due("copyOf", NONE, x.copyOf(0));
                }
            });
        }
        Edge.of(19, CLOSED, "the last copy with lenders ahead of it, the latest is the second", () -> {
            int[][] leftAhead = {{2, 2, 1, 0}, {1, 2, 1, 0}, {0, 2, 1, 0}, {0, 1, 1, 0}};
            for (int more = 0; more < 4; more++) {
                House x = Scenes.shelf(1, 0, 7, 2, 2, 1, 3);
                Scenes.lenders(x, 3, 3, 3, 2);
                Check.due("serve", 3, x.serve(0, 0));
                Check.due("giveBack", 2, x.giveBack(0, 0, 3 + more));
                Scenes.pieces(x, 0, leftAhead[more]);
            }
        });
    }

    private static void closedByKind() {
        Edge.of(19, CLOSED, "all of a kind are lost, the loans of the others are paid", () -> {
            for (int kind = 0; kind < 4; kind++) {
                House x = Scenes.fourKinds();
                x.serve(0, 0);
                Check.due("giveBack", 4, x.giveBack(0, kind, 2));
                for (int other = 0; other < 4; other++) {
                    int whole = other == 1 ? 1 : 2;
                    Scenes.pieces(x, other, other == kind ? 0 : 1, other == kind ? whole - 1 : whole);
                }
                Scenes.states(x, SHELF, SHELF);
            }
        });
        Edge.of(19, CLOSED, "one is lost, the loan of one is paid, none is kept", () -> {
            House x = Scenes.fourKinds();
            x.serve(0, 0);
            Check.due("giveBack", 4, x.giveBack(0, 3, 1));
            Scenes.pieces(x, 3, 0, 2);
        });
        Edge.of(19, CLOSED, "nothing goes back, but the lender is on the shelf again and can lend", () -> {
            House x = Scenes.shelf(1, 0, 4, 3, 3);
            x.serve(0, 0);
            Check.due("giveBack", 1, x.giveBack(0, 0, 4));
            Scenes.pieces(x, 0, 0, 2);
            Scenes.states(x, SHELF, SHELF);
            x.addCopy(0);
            Scenes.lenders(x, 2, 1, 0);
        });
        Edge.of(19, CLOSED, "those who lent to another group's copy still lend", () -> {
            House x = Scenes.shelf(2, 0, 4, 3, 3, 3, 3);
            x.serve(0, 0);
            x.serve(1, 0);
            Check.due("giveBack", 1, x.giveBack(1, 0, 0));
            Scenes.states(x, SERVED, LENDING, SHELF, SHELF);
            Scenes.pieces(x, 0, 4, 2, 3, 3);
        });
    }

    private static void keeps() {
        Edge.of(19, "(So it keeps what is left.)", "nothing is lent, all is left", () -> {
            House x = Scenes.shelf(1, 0, 9, 9);
            x.serve(0, 0);
            x.giveBack(0, 0, 8);
            Scenes.pieces(x, 0, 1);
        });
        Edge.of(19, "(So it keeps what is left.)", "one more than was lent, just as many, fewer", () -> {
            int[][] left = {{1, 3}, {0, 3}, {0, 2}};
            for (int more = 0; more < 3; more++) {
                House x = Scenes.shelf(1, 0, 9, 6, 3);
                x.serve(0, 0);
                Scenes.pieces(x, 0, 9, 0);
                x.giveBack(0, 0, 5 + more);
                Scenes.pieces(x, 0, left[more]);
            }
        });
    }

    private static void refusedState() {
        Edge.of(19, NOT_SO_MANY, "it had no copy yet, waits, has given it back, has left", () -> {
            House x = Scenes.shelf(1, 0, 4, 4);
            x.arrive(6, 600);
            Check.state("it has given it back before", x, h -> h.giveBack(0, 0, 0));
            Check.state("it waits", x, h -> h.giveBack(1, 0, 0));
            x.serve(0, 0);
            Check.state("another has one", x, h -> h.giveBack(1, 0, 0));
            x.giveBack(0, 0, 0);
            Check.state("the same again", x, h -> h.giveBack(0, 0, 0));
            x.leave(0);
            Check.state("it has left", x, h -> h.giveBack(0, 0, 0));
            Check.state("it is seated and had no copy yet", x, h -> h.giveBack(1, 0, 0));
        });
        Edge.of(19, NOT_SO_MANY, "one more than it has", () -> {
            for (int kind = 0; kind < 4; kind++) {
                int of = kind;
                House x = Scenes.shelf(1, kind, 8, 8);
                x.serve(0, 0);
                Check.state("nine of eight", x, h -> h.giveBack(0, of, 9));
                Check.state("one of none", x, h -> h.giveBack(0, (of + 1) % 4, 1));
                Check.due("eight of eight", 0, x.giveBack(0, of, 8));
            }
        });
        Edge.of(19, NOT_SO_MANY, "what was lent counts as what it has", () -> {
            House x = Scenes.shelf(1, 0, 5, 1, 4);
            x.serve(0, 0);
            Check.state("six of five", x, h -> h.giveBack(0, 0, 6));
            Check.due("five of five", 1, x.giveBack(0, 0, 5));
        });
    }

    private static void refusedOrder() {
        Edge.of(19, "Throws `IllegalArgumentException` if lost is out of range", "on each side", () -> {
            House x = Scenes.shelf(1, 0, 9, 9);
            x.serve(0, 0);
            Check.outOfRange("lost", 0, 9, x, (h, lost) -> h.giveBack(0, 0, lost));
        });
        Edge.of(19, SEVERAL, "no group or kind, and out of range", () -> {
            House x = Scenes.shelf(1, 0, 9, 9);
            x.serve(0, 0);
            for (int lost : new int[] {-1, 10}) {
                Check.noSuch("no group", 1, x, (h, group) -> h.giveBack(group, 0, lost));
                Check.noSuch("no kind", 4, x, (h, kind) -> h.giveBack(0, kind, lost));
                Check.noSuch("neither", 4, x, (h, number) -> h.giveBack(number, number, lost));
            }
        });
        Edge.of(19, SEVERAL, "no kind, and no copy or not so many pieces", () -> {
            House x = Scenes.shelf(1, 0, 4, 4);
            Check.noSuch("no copy", 4, x, (h, kind) -> h.giveBack(0, kind, 0));
            x.serve(0, 0);
            Check.noSuch("not so many", 4, x, (h, kind) -> h.giveBack(0, kind, 9));
        });
        Edge.of(19, SEVERAL, "out of range, and no copy or not so many pieces", () -> {
            House x = Scenes.shelf(1, 0, 4, 4);
            Check.outOfRange("no copy", 0, 9, x, (h, lost) -> h.giveBack(0, 0, lost));
            x.serve(0, 0);
            Check.outOfRange("not so many", 0, 9, x, (h, lost) -> h.giveBack(0, 3, lost));
        });
    }
}
