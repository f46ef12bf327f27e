/** A games cafe: tables and groups, titles and copies, and a referee with small rule books. */
public final class Meeplehouse {
    public static final int NONE = -1;
    public static final int SHELF = 0, SERVED = 1, LENDING = 2;
    public static final int PLAYERS = 0, HURRY = 1, SHARE = 2, LENT = 3;

    private static final int MOST_TABLES = 10;
    private static final int MOST_GROUPS = 30;
    private static final int MOST_TITLES = 8;
    private static final int MOST_COPIES = 16;
    private static final int MOST_RULES = 12;
    private static final int MOST_PLAYERS = 12;
    private static final int MOST_PIECES = 9;
    private static final int KINDS = 4;
    private static final int LAST_MINUTE = 20000;

    private final Hall hall = new Hall();
    private final Shelf shelf = new Shelf();
    private final Referee referee = new Referee();

    public Meeplehouse() {
    }

    // ---- minutes, tables, titles, copies

    public int pass(int minutes) throws IllegalArgumentException, IllegalStateException {
        checkRange(minutes, 1, 500);
        checkState(hall.minute + minutes <= LAST_MINUTE);
        hall.minute += minutes;
        return hall.minute;
    }

    public int now() {
        return hall.minute;
    }

    public int addTable(int seats) throws IllegalArgumentException, IllegalStateException {
        checkRange(seats, 2, 6);
        checkState(hall.tables < MOST_TABLES);
        return hall.putTable(seats);
    }

    public int addTitle(int least, int most, int minutes, int first, int second, int third, int fourth)
            throws IllegalArgumentException, IllegalStateException {
        checkRange(least, 1, MOST_PLAYERS);
        checkRange(most, least, MOST_PLAYERS);
        checkRange(minutes, 5, 300);
        checkRange(first, 0, MOST_PIECES);
        checkRange(second, 0, MOST_PIECES);
        checkRange(third, 0, MOST_PIECES);
        checkRange(fourth, 0, MOST_PIECES);
        checkState(shelf.titles < MOST_TITLES);
        int title = shelf.putTitle(least, most, minutes);
        shelf.setFull(title, 0, first);
        shelf.setFull(title, 1, second);
        shelf.setFull(title, 2, third);
        shelf.setFull(title, 3, fourth);
        return title;
    }

    public int addCopy(int title) throws IndexOutOfBoundsException, IllegalStateException {
        checkIndex(title, shelf.titles);
        checkState(shelf.copies < MOST_COPIES);
        return shelf.putCopy(title);
    }

    public int addRule(int title, int parent, int test, int value, int ruling)
            throws IndexOutOfBoundsException, IllegalArgumentException, IllegalStateException {
        checkIndex(title, shelf.titles);
        if (parent != NONE) {
            checkIndex(parent, referee.rulesOf(title));
        }
        checkRange(test, PLAYERS, LENT);
        checkRange(value, 1, 300);
        checkRange(ruling, 0, 99);
        checkState(referee.rulesOf(title) < MOST_RULES);
        return referee.putRule(title, parent, test, value, ruling);
    }

    // ---- groups

    public int arrive(int players, int minutes) throws IllegalArgumentException, IllegalStateException {
        checkRange(players, 1, MOST_PLAYERS);
        checkRange(minutes, 10, 600);
        checkState(hall.groups < MOST_GROUPS);
        return hall.welcome(players, minutes);
    }

    public int leave(int group) throws IndexOutOfBoundsException, IllegalStateException {
        checkIndex(group, hall.groups);
        checkState(shelf.heldBy(group) == NONE && !hall.isGone(group));
        return hall.dismiss(group);
    }

    public int tableOf(int group) throws IndexOutOfBoundsException {
        checkIndex(group, hall.groups);
        return hall.firstTable(group);
    }

    public int tablesOf(int group) throws IndexOutOfBoundsException {
        checkIndex(group, hall.groups);
        return hall.countTables(group);
    }

    public int waiting() {
        return hall.countWaiting();
    }

    public int waste(int players) throws IllegalArgumentException {
        checkRange(players, 1, MOST_PLAYERS);
        return hall.leastWaste(players);
    }

    public int wasteByAll(int players) throws IllegalArgumentException {
        checkRange(players, 1, MOST_PLAYERS);
        return hall.leastWasteOfSets(players);
    }

    public int left(int group) throws IndexOutOfBoundsException, IllegalStateException {
        checkIndex(group, hall.groups);
        checkState(hall.isSeated(group));
        return hall.minutesLeft(group);
    }

    // ---- games

    public int offers(int group) throws IndexOutOfBoundsException {
        checkIndex(group, hall.groups);
        return Integer.bitCount(offeredTitles(group));
    }

    public int offerAt(int group, int place) throws IndexOutOfBoundsException {
        checkIndex(group, hall.groups);
        int offered = offeredTitles(group);
        checkIndex(place, Integer.bitCount(offered));
        return shelf.titleInPlace(offered, place);
    }

    public int serve(int group, int title) throws IndexOutOfBoundsException, IllegalStateException {
        checkIndex(group, hall.groups);
        checkIndex(title, shelf.titles);
        checkState(isOffered(group, title));
        int copy = shelf.bestCopy(title);
        shelf.handOut(copy, group);
        return copy;
    }

    public int giveBack(int group, int kind, int lost)
            throws IndexOutOfBoundsException, IllegalArgumentException, IllegalStateException {
        checkIndex(group, hall.groups);
        checkIndex(kind, KINDS);
        checkRange(lost, 0, MOST_PIECES);
        int copy = shelf.heldBy(group);
        checkState(copy != NONE && shelf.count(copy, kind) >= lost);
        return shelf.takeBack(copy, kind, lost);
    }

    public int found(int copy, int kind, int many)
            throws IndexOutOfBoundsException, IllegalArgumentException, IllegalStateException {
        checkIndex(copy, shelf.copies);
        checkIndex(kind, KINDS);
        checkRange(many, 1, MOST_PIECES);
        checkState(shelf.place(copy) == SHELF && shelf.lack(copy, kind) >= many);
        shelf.change(copy, kind, many);
        return shelf.count(copy, kind);
    }

    public int pieces(int copy, int kind) throws IndexOutOfBoundsException {
        checkIndex(copy, shelf.copies);
        checkIndex(kind, KINDS);
        return shelf.count(copy, kind);
    }

    public int stateOf(int copy) throws IndexOutOfBoundsException {
        checkIndex(copy, shelf.copies);
        return shelf.place(copy);
    }

    public int lenders(int copy) throws IndexOutOfBoundsException {
        checkIndex(copy, shelf.copies);
        return shelf.countLenders(copy);
    }

    public int copyOf(int group) throws IndexOutOfBoundsException {
        checkIndex(group, hall.groups);
        return shelf.heldBy(group);
    }

    // ---- the referee

    public int ruling(int group) throws IndexOutOfBoundsException, IllegalStateException {
        checkIndex(group, hall.groups);
        checkState(shelf.heldBy(group) != NONE);
        return referee.rulingGoingDown(playedBy(group), holdingFor(group));
    }

    public int rulingFromBelow(int group) throws IndexOutOfBoundsException, IllegalStateException {
        checkIndex(group, hall.groups);
        checkState(shelf.heldBy(group) != NONE);
        return referee.rulingGoingUp(playedBy(group), holdingFor(group));
    }

    public int depth(int title) throws IndexOutOfBoundsException {
        checkIndex(title, shelf.titles);
        return referee.deepest(title);
    }

    // ---- what takes more than one part of the house

    private boolean isOffered(int group, int title) {
        return hall.isSeated(group)
            && shelf.heldBy(group) == NONE
            && shelf.suits(title, hall.players.at(group), hall.minutesLeft(group))
            && shelf.bestCopy(title) != NONE;
    }

    private int offeredTitles(int group) {
        int offered = 0;
        for (int title = 0; title < shelf.titles; title++) {
            if (isOffered(group, title)) {
                offered |= 1 << title;
            }
        }
        return offered;
    }

    private int playedBy(int group) {
        return shelf.titleOf.at(shelf.heldBy(group));
    }

    private int holdingFor(int group) {
        int lent = shelf.piecesLentTo(shelf.heldBy(group));
        return referee.holding(playedBy(group), hall.players.at(group), hall.minutesLeft(group), lent);
    }

    private static void checkIndex(int index, int count) {
        if (index < 0 || index >= count) {
            throw new IndexOutOfBoundsException("there is none of this number");
        }
    }

    private static void checkRange(int value, int from, int to) {
        if (value < from || value > to) {
            throw new IllegalArgumentException("an argument is out of its range");
        }
    }

    private static void checkState(boolean fits) {
        if (!fits) {
            throw new IllegalStateException("not as things stand");
        }
    }

    private static boolean contains(int set, int number) {
        return (set >> number & 1) != 0;
    }

    /** Numbers in a row. A place outside reads NONE and keeps nothing, so that no index can fail. */
    private static final class Row {
        private final int[] cells;

        Row(int length, int begin) {
            cells = new int[Math.max(length, 0)];
            for (int place = 0; place < cells.length; place++) {
                cells[place] = begin;
            }
        }

        int at(int place) {
            return place >= 0 && place < cells.length ? cells[place] : NONE;
        }

        void put(int place, int value) {
            if (place >= 0 && place < cells.length) {
                cells[place] = value;
            }
        }
    }

    /** Minutes, tables and groups. */
    private static final class Hall {
        private static final int WAITS = 0;
        private static final int SITS = 1;
        private static final int GONE = 2;

        private int minute;
        private int tables;
        private int groups;
        private final Row seats = new Row(MOST_TABLES, 0);
        private final Row sitter = new Row(MOST_TABLES, NONE);
        private final Row players = new Row(MOST_GROUPS, 0);
        private final Row stay = new Row(MOST_GROUPS, 0);
        private final Row end = new Row(MOST_GROUPS, 0);
        private final Row state = new Row(MOST_GROUPS, WAITS);

        int putTable(int many) {
            seats.put(tables, many);
            tables++;
            return tables - 1;
        }

        int welcome(int many, int minutes) {
            int group = groups;
            groups++;
            players.put(group, many);
            stay.put(group, minutes);
            seatIfPossible(group);
            return group;
        }

        int dismiss(int group) {
            state.put(group, GONE);
            for (int table = 0; table < tables; table++) {
                if (sitter.at(table) == group) {
                    sitter.put(table, NONE);
                }
            }
            return seatWaiting();
        }

        private int seatWaiting() {
            int seated = 0;
            for (int group = 0; group < groups; group++) {
                if (state.at(group) == WAITS && seatIfPossible(group)) {
                    seated++;
                }
            }
            return seated;
        }

        private boolean seatIfPossible(int group) {
            int best = leastWaste(players.at(group));
            if (best == NONE) {
                return false;
            }
            // Rows are tried by length, then by first table: the first that fits as well as any is due.
            for (int many = 1; many <= tables; many++) {
                for (int first = 0; first + many <= tables; first++) {
                    if (wasteAt(first, many, players.at(group)) == best) {
                        seat(group, first, many);
                        return true;
                    }
                }
            }
            return false;
        }

        private void seat(int group, int first, int many) {
            for (int table = first; table < first + many; table++) {
                sitter.put(table, group);
            }
            state.put(group, SITS);
            end.put(group, minute + stay.at(group));
        }

        int leastWaste(int many) {
            int best = NONE;
            for (int length = 1; length <= tables; length++) {
                for (int first = 0; first + length <= tables; first++) {
                    best = lesser(best, wasteAt(first, length, many));
                }
            }
            return best;
        }

        private int wasteAt(int first, int length, int many) {
            int merged = 1 - length;
            for (int table = first; table < first + length; table++) {
                if (sitter.at(table) != NONE) {
                    return NONE;
                }
                merged += seats.at(table);
            }
            return merged < many ? NONE : merged - many;
        }

        int leastWasteOfSets(int many) {
            int best = NONE;
            for (int set = 1; set < 1 << tables; set++) {
                best = lesser(best, wasteOfSet(set, many));
            }
            return best;
        }

        private int wasteOfSet(int set, int many) {
            int last = NONE;
            int merged = 1;
            for (int table = 0; table < tables; table++) {
                if (contains(set, table)) {
                    boolean apart = last != NONE && last != table - 1;
                    if (apart || sitter.at(table) != NONE) {
                        return NONE;
                    }
                    merged += seats.at(table) - 1;
                    last = table;
                }
            }
            return merged < many ? NONE : merged - many;
        }

        private static int lesser(int best, int other) {
            if (best == NONE || other == NONE) {
                return Math.max(best, other);
            }
            return Math.min(best, other);
        }

        int firstTable(int group) {
            for (int table = 0; table < tables; table++) {
                if (sitter.at(table) == group) {
                    return table;
                }
            }
            return NONE;
        }

        int countTables(int group) {
            int many = 0;
            for (int table = 0; table < tables; table++) {
                if (sitter.at(table) == group) {
                    many++;
                }
            }
            return many;
        }

        int countWaiting() {
            int many = 0;
            for (int group = 0; group < groups; group++) {
                if (state.at(group) == WAITS) {
                    many++;
                }
            }
            return many;
        }

        boolean isSeated(int group) {
            return state.at(group) == SITS;
        }

        boolean isGone(int group) {
            return state.at(group) == GONE;
        }

        int minutesLeft(int group) {
            return Math.max(end.at(group) - minute, 0);
        }
    }

    /** Titles, copies and loans. */
    private static final class Shelf {
        private int titles;
        private int copies;
        private final Row least = new Row(MOST_TITLES, 0);
        private final Row most = new Row(MOST_TITLES, 0);
        private final Row minutes = new Row(MOST_TITLES, 0);
        private final Row full = new Row(MOST_TITLES * KINDS, 0);
        private final Row titleOf = new Row(MOST_COPIES, NONE);
        private final Row holder = new Row(MOST_COPIES, NONE);
        // A copy lends to one other at a time, so what it lent, kind by kind, is kept with the lender.
        private final Row borrower = new Row(MOST_COPIES, NONE);
        private final Row lent = new Row(MOST_COPIES * KINDS, 0);
        private final Row has = new Row(MOST_COPIES * KINDS, 0);

        int putTitle(int fewest, int greatest, int takes) {
            least.put(titles, fewest);
            most.put(titles, greatest);
            minutes.put(titles, takes);
            titles++;
            return titles - 1;
        }

        void setFull(int title, int kind, int many) {
            full.put(title * KINDS + kind, many);
        }

        int putCopy(int title) {
            int copy = copies;
            copies++;
            titleOf.put(copy, title);
            for (int kind = 0; kind < KINDS; kind++) {
                has.put(copy * KINDS + kind, full.at(title * KINDS + kind));
            }
            return copy;
        }

        int heldBy(int group) {
            for (int copy = 0; copy < copies; copy++) {
                if (holder.at(copy) == group) {
                    return copy;
                }
            }
            return NONE;
        }

        int place(int copy) {
            if (holder.at(copy) != NONE) {
                return SERVED;
            }
            return borrower.at(copy) != NONE ? LENDING : SHELF;
        }

        int count(int copy, int kind) {
            return has.at(copy * KINDS + kind);
        }

        int lack(int copy, int kind) {
            return full.at(titleOf.at(copy) * KINDS + kind) - has.at(copy * KINDS + kind);
        }

        void change(int copy, int kind, int more) {
            has.put(copy * KINDS + kind, count(copy, kind) + more);
        }

        boolean suits(int title, int players, int left) {
            return players >= least.at(title) && players <= most.at(title) && left >= minutes.at(title);
        }

        int titleInPlace(int offered, int wanted) {
            for (int title = 0; title < titles; title++) {
                if (contains(offered, title) && countAhead(offered, title) == wanted) {
                    return title;
                }
            }
            return NONE;
        }

        private int countAhead(int offered, int title) {
            int ahead = 0;
            for (int other = 0; other < titles; other++) {
                int longer = minutes.at(other) - minutes.at(title);
                if (contains(offered, other) && (longer > 0 || longer == 0 && other < title)) {
                    ahead++;
                }
            }
            return ahead;
        }

        int bestCopy(int title) {
            int best = NONE;
            int fewest = MOST_COPIES;
            for (int copy = 0; copy < copies; copy++) {
                int needed = titleOf.at(copy) == title ? countLenders(copy) : NONE;
                if (needed != NONE && needed < fewest) {
                    best = copy;
                    fewest = needed;
                }
            }
            return best;
        }

        int countLenders(int copy) {
            if (place(copy) != SHELF) {
                return NONE;
            }
            int givers = 0;
            for (int kind = 0; kind < KINDS; kind++) {
                int lacking = lack(copy, kind);
                for (int other = 0; other < copies && lacking > 0; other++) {
                    if (mayLend(other, copy) && count(other, kind) > 0) {
                        givers |= 1 << other;
                        lacking -= Math.min(lacking, count(other, kind));
                    }
                }
                if (lacking > 0) {
                    return NONE;
                }
            }
            return Integer.bitCount(givers);
        }

        private boolean mayLend(int other, int copy) {
            // One that already lends a kind to this copy was on the shelf and may lend more kinds.
            return other != copy
                && titleOf.at(other) == titleOf.at(copy)
                && holder.at(other) == NONE
                && (borrower.at(other) == NONE || borrower.at(other) == copy);
        }

        void handOut(int copy, int group) {
            for (int kind = 0; kind < KINDS; kind++) {
                for (int other = 0; other < copies; other++) {
                    int many = Math.min(lack(copy, kind), count(other, kind));
                    if (mayLend(other, copy) && many > 0) {
                        lend(other, copy, kind, many);
                    }
                }
            }
            holder.put(copy, group);
        }

        private void lend(int lender, int copy, int kind, int many) {
            borrower.put(lender, copy);
            lent.put(lender * KINDS + kind, many);
            change(lender, kind, -many);
            change(copy, kind, many);
        }

        int takeBack(int copy, int kind, int lost) {
            change(copy, kind, -lost);
            int closed = closeLoans(copy);
            for (int lender = 0; lender < copies; lender++) {
                if (borrower.at(lender) == copy) {
                    borrower.put(lender, NONE);
                }
            }
            holder.put(copy, NONE);
            return closed;
        }

        private int closeLoans(int copy) {
            int closed = 0;
            // Loans were made by rising kinds and lenders: the latest stands at the end.
            for (int kind = KINDS - 1; kind >= 0; kind--) {
                for (int lender = copies - 1; lender >= 0; lender--) {
                    int owed = lent.at(lender * KINDS + kind);
                    if (borrower.at(lender) == copy && owed > 0) {
                        int many = Math.min(owed, count(copy, kind));
                        change(copy, kind, -many);
                        change(lender, kind, many);
                        lent.put(lender * KINDS + kind, 0);
                        closed++;
                    }
                }
            }
            return closed;
        }

        int piecesLentTo(int copy) {
            int many = 0;
            for (int lender = 0; lender < copies; lender++) {
                for (int kind = 0; kind < KINDS && borrower.at(lender) == copy; kind++) {
                    many += lent.at(lender * KINDS + kind);
                }
            }
            return many;
        }
    }

    /** The rule books of all titles. A set of rules is an int with a bit for each. */
    private static final class Referee {
        private final Row rules = new Row(MOST_TITLES, 0);
        private final Row parents = new Row(MOST_TITLES * MOST_RULES, NONE);
        private final Row tests = new Row(MOST_TITLES * MOST_RULES, 0);
        private final Row values = new Row(MOST_TITLES * MOST_RULES, 0);
        private final Row rulings = new Row(MOST_TITLES * MOST_RULES, 0);

        int rulesOf(int title) {
            return rules.at(title);
        }

        int putRule(int title, int parent, int test, int value, int ruling) {
            int rule = rules.at(title);
            int place = title * MOST_RULES + rule;
            parents.put(place, parent);
            tests.put(place, test);
            values.put(place, value);
            rulings.put(place, ruling);
            rules.put(title, rule + 1);
            return rule;
        }

        private int parentOf(int title, int rule) {
            return parents.at(title * MOST_RULES + rule);
        }

        int holding(int title, int players, int left, int lent) {
            int set = 0;
            for (int rule = 0; rule < rules.at(title); rule++) {
                int place = title * MOST_RULES + rule;
                if (holds(tests.at(place), values.at(place), players, left, lent)) {
                    set |= 1 << rule;
                }
            }
            return set;
        }

        private static boolean holds(int test, int value, int players, int left, int lent) {
            switch (test) {
                case PLAYERS:
                    return players >= value;
                case HURRY:
                    return left < value;
                case SHARE:
                    return value > 0 && players % value == 0;
                case LENT:
                    return lent >= value;
                default:
                    return false;
            }
        }

        int rulingGoingDown(int title, int holding) {
            int decided = NONE;
            for (int level = 0; level < MOST_RULES; level++) {
                int next = firstHolding(title, decided, holding);
                if (next == NONE) {
                    break;
                }
                decided = next;
            }
            return decided == NONE ? NONE : rulings.at(title * MOST_RULES + decided);
        }

        private int firstHolding(int title, int parent, int holding) {
            for (int rule = 0; rule < rules.at(title); rule++) {
                if (parentOf(title, rule) == parent && contains(holding, rule)) {
                    return rule;
                }
            }
            return NONE;
        }

        int rulingGoingUp(int title, int holding) {
            for (int rule = 0; rule < rules.at(title); rule++) {
                if (decides(title, rule, holding)) {
                    return rulings.at(title * MOST_RULES + rule);
                }
            }
            return NONE;
        }

        private boolean decides(int title, int rule, int holding) {
            if (holdsAmong(title, rule, rules.at(title), holding)) {
                return false;
            }
            int at = rule;
            for (int level = 0; level < MOST_RULES && at != NONE; level++) {
                int parent = parentOf(title, at);
                if (!contains(holding, at) || holdsAmong(title, parent, at, holding)) {
                    return false;
                }
                at = parent;
            }
            return true;
        }

        /** Tells if the test of a rule below this parent and numbered under the bound holds. */
        private boolean holdsAmong(int title, int parent, int bound, int holding) {
            for (int rule = 0; rule < bound; rule++) {
                if (parentOf(title, rule) == parent && contains(holding, rule)) {
                    return true;
                }
            }
            return false;
        }

        int deepest(int title) {
            int greatest = 0;
            for (int rule = 0; rule < rules.at(title); rule++) {
                greatest = Math.max(greatest, levelOf(title, rule));
            }
            return greatest;
        }

        private int levelOf(int title, int rule) {
            int level = 0;
            for (int at = rule; at != NONE && level < MOST_RULES; at = parentOf(title, at)) {
                level++;
            }
            return level;
        }
    }
}
