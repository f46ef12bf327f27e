/** What a house answers, as texts: all that it shows, and what shows when it is emptied or filled. */
final class Snapshot {
    private static final String NO_SUCH = "IndexOutOfBoundsException";
    private static final String FULL = "IllegalStateException";

    private interface Numbered {
        int on(House house, int number);
    }

    private Snapshot() {
    }

    /** All that the face shows, without a call that changes something. */
    static String shown(House house) {
        StringBuilder text = new StringBuilder();
        text.append("now ").append(house.now()).append(" waiting ").append(house.waiting()).append(" waste");
        for (int players = 1; players <= 12; players++) {
            text.append(' ').append(house.waste(players)).append('/').append(house.wasteByAll(players));
        }
        for (int group = 0; addGroup(text, house, group); group++) {
            text.append(';');
        }
        for (int copy = 0; addCopy(text, house, copy); copy++) {
            text.append(';');
        }
        addUntil(NO_SUCH, text, " depth", house, House::depth);
        return text.toString();
    }

    private static boolean addGroup(StringBuilder text, House house, int group) {
        String tables = answer(h -> h.tablesOf(group), house);
        text.append(" group").append(group).append(' ').append(tables);
        if (tables.equals(NO_SUCH)) {
            return false;
        }
        text.append(' ').append(house.tableOf(group)).append(' ').append(house.copyOf(group));
        text.append(' ').append(answer(h -> h.left(group), house));
        text.append(' ').append(answer(h -> h.ruling(group), house));
        text.append(' ').append(answer(h -> h.rulingFromBelow(group), house));
        int offers = house.offers(group);
        for (int place = 0; place < offers; place++) {
            text.append(" offer ").append(house.offerAt(group, place));
        }
        return true;
    }

    private static boolean addCopy(StringBuilder text, House house, int copy) {
        String state = answer(h -> h.stateOf(copy), house);
        text.append(" copy").append(copy).append(' ').append(state);
        if (state.equals(NO_SUCH)) {
            return false;
        }
        text.append(' ').append(house.lenders(copy));
        for (int kind = 0; kind < 4; kind++) {
            text.append(' ').append(house.pieces(copy, kind));
        }
        return true;
    }

    /** What the loans and the queue are shows when all copies come back and all groups leave. */
    static String emptied(House house) {
        StringBuilder text = new StringBuilder();
        addUntil(NO_SUCH, text, " giveBack", house, (h, group) -> h.giveBack(group, 0, 0));
        for (int copy = 0; addCopy(text, house, copy); copy++) {
            text.append(';');
        }
        addUntil(NO_SUCH, text, " leave", house, House::leave);
        addUntil(NO_SUCH, text, " left", house, House::left);
        addUntil(NO_SUCH, text, " tableOf", house, House::tableOf);
        return text.toString();
    }

    /** How many of each there are shows when the house is filled to its bounds. */
    static String filled(House house) {
        StringBuilder text = new StringBuilder();
        addUntil(FULL, text, " addTable", house, (h, i) -> h.addTable(2));
        addUntil(FULL, text, " arrive", house, (h, i) -> h.arrive(3, 600));
        addUntil(FULL, text, " addTitle", house, (h, i) -> h.addTitle(1, 12, 5, 1, 0, 0, 0));
        addUntil(FULL, text, " addCopy", house, (h, i) -> h.addCopy(i % 8));
        for (int title = 0; title < 8; title++) {
            int book = title;
            addUntil(FULL, text, " addRule", house, (h, i) -> h.addRule(book, i - 1, Meeplehouse.PLAYERS, 1, i));
        }
        addUntil(NO_SUCH, text, " depth", house, House::depth);
        addUntil(FULL, text, " pass", house, (h, i) -> h.pass(500));
        addUntil(NO_SUCH, text, " tableOf", house, House::tableOf);
        return text.toString();
    }

    private static void addUntil(String end, StringBuilder text, String name, House house, Numbered call) {
        text.append(name);
        String answer = "";
        for (int number = 0; number <= 60 && !answer.equals(end); number++) {
            int at = number;
            answer = answer(h -> call.on(h, at), house);
            text.append(' ').append(answer);
        }
    }

    static String answer(House.Call call, House house) {
        try {
            return Integer.toString(call.on(house));
        } catch (RuntimeException e) {
            return e.getClass().getSimpleName();
        }
    }
}
