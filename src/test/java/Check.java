/** Compares answers with those that are due and counts the wrong ones. */
final class Check {
    interface Call {
        int run();
    }

    private static int wrong = 0;
    private static int done = 0;
    private static String part = "";

    private Check() {
    }

    static void part(String name) {
        part = name;
    }

    static void due(String what, long want, long got) {
        done++;
        if (got != want) {
            fail(what + " answered " + got + ", due is " + want);
        }
    }

    static void same(String what, String want, String got) {
        done++;
        if (!want.equals(got)) {
            fail(what + "\n  was " + got + "\n  due " + want);
        }
    }

    /** The call must throw just this class, and nothing that the face shows may change. */
    static void refused(String what, Class<? extends RuntimeException> want, Meeplehouse house, Call call) {
        String before = Snapshot.of(house);
        String got = "nothing";
        try {
            call.run();
        } catch (RuntimeException e) {
            got = e.getClass().getName();
        }
        same(what + " throws", want.getName(), got);
        same(what + " changes nothing", before, Snapshot.of(house));
    }

    static void index(String what, Meeplehouse house, Call call) {
        refused(what, IndexOutOfBoundsException.class, house, call);
    }

    static void argument(String what, Meeplehouse house, Call call) {
        refused(what, IllegalArgumentException.class, house, call);
    }

    static void state(String what, Meeplehouse house, Call call) {
        refused(what, IllegalStateException.class, house, call);
    }

    static void fail(String text) {
        wrong++;
        if (wrong <= 50) {
            System.out.println(part + ": " + text);
        }
    }

    static void end() {
        System.out.println(wrong == 0 ? done + " answers are as due" : wrong + " of " + done + " are not as due");
        if (wrong != 0) {
            System.exit(1);
        }
    }
}
