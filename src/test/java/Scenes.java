/** Houses whose copies lack pieces. */
final class Scenes {
    private Scenes() {
    }

    /** A title of so many pieces of one kind, and copies on the shelf that have so many; groups of six sit. */
    static House shelf(int groups, int kind, int full, int... has) {
        House house = House.withGroups(groups);
        addTitleOfKind(house, kind, full);
        addCopies(house, 0, kind, full, has);
        return house;
    }

    static int addTitleOfKind(House house, int kind, int full) {
        int[] all = new int[4];
        all[kind] = full;
        return house.addTitle(1, 12, 5, all[0], all[1], all[2], all[3]);
    }

    /** Each new copy is first emptied, while it is the only whole one, and filled when all are there. */
    static void addCopies(House house, int title, int kind, int full, int... has) {
        int[] copies = new int[has.length];
        for (int i = 0; i < has.length; i++) {
            copies[i] = house.addCopy(title);
            lose(house, 0, title, copies[i], kind, full);
        }
        for (int i = 0; i < has.length; i++) {
            if (has[i] > 0) {
                house.found(copies[i], kind, has[i]);
            }
        }
    }

    /** Lets pieces of the copy that is due to be served be lost. */
    static void lose(House house, int group, int title, int copy, int kind, int lost) {
        Check.due("the copy that is served to lose pieces", copy, house.serve(group, title));
        house.giveBack(group, kind, lost);
    }

    static void pieces(House house, int kind, int... due) {
        for (int copy = 0; copy < due.length; copy++) {
            Check.due("pieces(" + copy + ", " + kind + ")", due[copy], house.pieces(copy, kind));
        }
    }

    static void states(House house, int... due) {
        for (int copy = 0; copy < due.length; copy++) {
            Check.due("stateOf(" + copy + ")", due[copy], house.stateOf(copy));
        }
    }

    static void lenders(House house, int... due) {
        for (int copy = 0; copy < due.length; copy++) {
            Check.due("lenders(" + copy + ")", due[copy], house.lenders(copy));
        }
    }

    /**
     * A title of two pieces of each kind: the copy 0 lacks one of each, the copy 1 one of the kind 1.
     * Each needs the other alone.
     */
    static House fourKinds() {
        House house = House.withGroups(2);
        house.addTitle(1, 12, 5, 2, 2, 2, 2);
        house.addCopy(0);
        lose(house, 0, 0, 0, 0, 1);
        house.addCopy(0);
        lose(house, 0, 0, 1, 1, 1);
        lose(house, 0, 0, 0, 1, 1);
        lose(house, 0, 0, 0, 2, 1);
        lose(house, 0, 0, 0, 3, 1);
        return house;
    }
}
