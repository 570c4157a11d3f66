/** What all tests use: counts and prints the answers that are not due. */
final class Check {
    interface Call {
        void run();
    }

    private static int wrong = 0;
    private static int done = 0;

    private Check() {
    }

    static void equal(String what, long got, long due) {
        done++;
        if (got != due) {
            wrong++;
            System.out.println(what + " answered " + got + ", due is " + due);
        }
    }

    static void equal(String what, String got, String due) {
        done++;
        if (!got.equals(due)) {
            wrong++;
            System.out.println(what + " answered " + got + ", due is " + due);
        }
    }

    static void bits(String what, double got, double due) {
        equal(what + " (as bits)", Double.doubleToLongBits(got), Double.doubleToLongBits(due));
    }

    /** The very class must be thrown, and nothing that the desk tells of itself may change. */
    static void throwing(String what, Class<? extends RuntimeException> due, AmplifierDesk desk, Call call) {
        done++;
        long before = desk.digest();
        Class<?> got = null;
        try {
            call.run();
        } catch (RuntimeException e) {
            got = e.getClass();
        }
        if (got != due) {
            wrong++;
            System.out.println(what + " threw " + got + ", due is " + due);
        }
        equal("digest after " + what, desk.digest(), before);
    }

    static void badIndex(String what, AmplifierDesk desk, Call call) {
        throwing(what, IndexOutOfBoundsException.class, desk, call);
    }

    static void badState(String what, AmplifierDesk desk, Call call) {
        throwing(what, IllegalStateException.class, desk, call);
    }

    static void badArgument(String what, AmplifierDesk desk, Call call) {
        throwing(what, IllegalArgumentException.class, desk, call);
    }

    /** "7/2"; "0/0" where the desk answers that there is no voltage. */
    static String voltage(AmplifierDesk desk, int node) {
        return desk.voltage(node, 0) + "/" + desk.voltage(node, 1);
    }

    static String current(AmplifierDesk desk, int part) {
        return desk.current(part, 0) + "/" + desk.current(part, 1);
    }

    static String inCase(AmplifierDesk desk, int number, int node) {
        return desk.inCase(number, node, 0) + "/" + desk.inCase(number, node, 1);
    }

    static void type(AmplifierDesk desk, String text) {
        for (int i = 0; i < text.length(); i++) {
            desk.append(text.charAt(i));
        }
    }

    /** What load() returns for this text alone in the buffer, or the plain name of what it throws. */
    static String load(AmplifierDesk desk, String text) {
        desk.clearInput();
        type(desk, text);
        try {
            return "" + desk.load();
        } catch (RuntimeException e) {
            return e.getClass().getSimpleName();
        }
    }

    static AmplifierDesk desk(String text) {
        AmplifierDesk desk = new AmplifierDesk();
        type(desk, text);
        desk.load();
        return desk;
    }

    static void end() {
        System.out.println(done + " checks, " + wrong + " wrong");
        if (wrong != 0) {
            System.exit(1);
        }
    }
}
