/** All that the face shows of a house, as a text. */
final class Snapshot {
    private Snapshot() {
    }

    static String of(Meeplehouse house) {
        StringBuilder text = new StringBuilder();
        text.append("now ").append(house.now()).append(" waiting ").append(house.waiting()).append(" waste");
        for (int players = 1; players <= 12; players++) {
            text.append(' ').append(house.waste(players)).append('/').append(house.wasteByAll(players));
        }
        for (int group = 0; group < 30; group++) {
            addGroup(text, house, group);
        }
        for (int title = 0; title < 8; title++) {
            int number = title;
            text.append(" title").append(title).append(' ').append(answer(() -> house.depth(number)));
        }
        for (int copy = 0; copy < 16; copy++) {
            addCopy(text, house, copy);
        }
        return text.toString();
    }

    private static void addGroup(StringBuilder text, Meeplehouse house, int group) {
        String tables = answer(() -> house.tablesOf(group));
        text.append(" group").append(group).append(' ').append(tables);
        if (tables.equals("IndexOutOfBoundsException")) {
            return;
        }
        text.append(' ').append(answer(() -> house.tableOf(group)));
        text.append(' ').append(answer(() -> house.left(group)));
        text.append(' ').append(answer(() -> house.copyOf(group)));
        text.append(' ').append(answer(() -> house.ruling(group)));
        text.append(' ').append(answer(() -> house.rulingFromBelow(group)));
        for (int place = 0; place <= house.offers(group); place++) {
            int number = place;
            text.append(" offer ").append(answer(() -> house.offerAt(group, number)));
        }
    }

    private static void addCopy(StringBuilder text, Meeplehouse house, int copy) {
        String state = answer(() -> house.stateOf(copy));
        text.append(" copy").append(copy).append(' ').append(state);
        if (state.equals("IndexOutOfBoundsException")) {
            return;
        }
        text.append(' ').append(answer(() -> house.lenders(copy)));
        for (int kind = 0; kind < 4; kind++) {
            text.append(' ').append(house.pieces(copy, kind));
        }
    }

    static String answer(Check.Call call) {
        try {
            return Integer.toString(call.run());
        } catch (IndexOutOfBoundsException | IllegalArgumentException | IllegalStateException e) {
            return e.getClass().getSimpleName();
        }
    }
}
