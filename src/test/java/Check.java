/** Compares answers with those that are due and counts the wrong ones. */
final class Check {
    interface Numbered {
        int on(House house, int number);
    }

    interface Body {
        void run();
    }

    private static int wrong = 0;
    private static int done = 0;
    private static String part = "";

    private Check() {
    }

    static void part(String name) {
        part = name;
    }

    /** Runs a part of a test; a call in it that throws though an answer is due is a wrong one. */
    static void part(String name, Body body) {
        part = name;
        try {
            body.run();
        } catch (RuntimeException e) {
            fail("an answer was due, but a call threw " + e);
        }
    }

    static void due(String what, long want, long got) {
        done++;
        if (got != want) {
            fail(what + " answered " + got + ", due is " + want);
        }
    }

    static void same(String what, String want, String got) {
        done++;
        if (!want.equals(got)) {
            fail(what + "\n  was " + got + "\n  due " + want);
        }
    }

    /** The call must throw just this class; and new houses must answer the same with it and without it. */
    static void refused(String what, Class<? extends RuntimeException> want, House house, House.Call call) {
        same(what + " throws", want.getName(), thrownBy(call, house));
        String text = what + " changes nothing, ";
        same(text + "shown", Snapshot.shown(house.againWithoutRefused()), Snapshot.shown(house.again()));
        same(text + "emptied", Snapshot.emptied(house.againWithoutRefused()), Snapshot.emptied(house.again()));
        same(text + "filled", Snapshot.filled(house.againWithoutRefused()), Snapshot.filled(house.again()));
    }

    private static String thrownBy(House.Call call, House house) {
        try {
            return "nothing, but answers " + call.on(house);
        } catch (RuntimeException e) {
            return e.getClass().getName();
        }
    }

    static void index(String what, House house, House.Call call) {
        refused(what, IndexOutOfBoundsException.class, house, call);
    }

    static void argument(String what, House house, House.Call call) {
        refused(what, IllegalArgumentException.class, house, call);
    }

    static void state(String what, House house, House.Call call) {
        refused(what, IllegalStateException.class, house, call);
    }

    /** No number beside those from 0 under the count is one. */
    static void noSuch(String what, int count, House house, Numbered call) {
        for (int number : new int[] {-1, count, Integer.MAX_VALUE, Integer.MIN_VALUE}) {
            index(what + " " + number, house, h -> call.on(h, number));
        }
    }

    /** The next below and the next above the range, and the ends of int. */
    static void outOfRange(String what, int from, int to, House house, Numbered call) {
        for (int number : new int[] {from - 1, to + 1, Integer.MAX_VALUE, Integer.MIN_VALUE}) {
            argument(what + " " + number, house, h -> call.on(h, number));
        }
    }

    static void fail(String text) {
        wrong++;
        if (wrong <= 50) {
            System.out.println(part + ": " + text);
        }
    }

    static void end() {
        System.out.println(wrong == 0 ? done + " answers are as due" : wrong + " of " + done + " are not as due");
        if (wrong != 0) {
            System.exit(1);
        }
    }
}
