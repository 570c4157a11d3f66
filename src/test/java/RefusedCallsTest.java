/**
 * Each row of each throws clause, and each two of them that can apply at once: the one that is named first is thrown,
 * and nothing has changed after it, the history, the images and the buffer included.
 */
public final class RefusedCallsTest {
    private static final Class<? extends RuntimeException> INDEX = IndexOutOfBoundsException.class;
    private static final Class<? extends RuntimeException> STATE = IllegalStateException.class;
    private static final Class<? extends RuntimeException> ARGUMENT = IllegalArgumentException.class;
    private static final int MOST_CALLS = 512;

    public static void main(String[] args) {
        loads();
        for (String state : States.NAMES) {
            anywhere(state);
        }
        emptyDesk("new");
        emptyDesk("begun");
        inverter();
        fullDesk();
        notSettled("not settled");
        notSettled("nothing determined");
        Check.end();
    }

    /** Promise 3. */
    private static void loads() {
        refusedLoad("new", "", ARGUMENT);
        refusedLoad("new", "r12", ARGUMENT);
        refusedLoad("new", "r121;", ARGUMENT);
        refusedLoad("new", "r121;q", ARGUMENT);
        refusedLoad("new", "r121;r221", ARGUMENT);
        refusedLoad("inverter", "r111", ARGUMENT);
        refusedLoad("not settled", "s05", ARGUMENT);
        refusedLoad("inverter", "s45;o122", ARGUMENT);
        refusedLoad("inverter", "s45;s46", STATE);
        refusedLoad("inverter", "o214;o124", STATE);
        refusedLoad("inverter", "s45;o124", STATE);
        refusedLoad("inverter", "r121;s15", STATE);
        refusedLoad("inverter", "r121;s35", STATE);
        refusedLoad("inverter", "o241", STATE);
        refusedLoad("inverter", "o243", STATE);
        refusedLoad("inverter", "o014;o015;o016", STATE);
        refusedLoad("inverter", "r121;r121;r121;r121;r121;r121;r121;r121;r121", STATE);
        refusedLoad("new", "s10;s20;s30;s40;s50;s60;r121;r121;r121;r121;r121;r121;r121", STATE);
        refusedLoad("full", "r121", STATE);
        refusedLoad("full", "s15", STATE);
        refusedLoad("full", "o014", STATE);
        // Both rows of the throws clause apply.
        refusedLoad("full", "r121;r111", ARGUMENT);
        refusedLoad("full", "r121;", ARGUMENT);
        refusedLoad("full", "s15;s15;o012;o013;o014;o015;s05", ARGUMENT);
        refusedLoad("inverter", "s15;o244;o012;o013;o014;o015;r121;r121;r121;r121;r12", ARGUMENT);
    }

    /** What is refused whatever the desk holds. */
    private static void anywhere(String state) {
        refused(state, INDEX, "setValue -1 1", "setValue 12 1", "setValue -1 999", "setValue 12 -999");
        refused(state, ARGUMENT, "setRail 9", "setRail 201", "setRail -10", "setRail 0");
        refused(state, INDEX, "drop -1", "drop 12");
        refused(state, INDEX, "sweep -1 1", "sweep 12 1", "sweep -1 201", "sweep 12 -201");
        refused(state, INDEX, "keep -1", "keep 2", "back -1", "back 2");
        refused(state, ARGUMENT, "append 31", "append 127", "append -1", "append 256");
        refused(state, INDEX, "voltage -1 0", "voltage 7 1", "voltage -1 -1", "voltage 7 2");
        refused(state, ARGUMENT, "voltage 0 -1", "voltage 0 2", "voltage 6 -1", "voltage 6 2");
        refused(state, INDEX, "current -1 0", "current 12 1", "current -1 -1", "current 12 2");
        refused(state, INDEX, "amplifier -1 0", "amplifier 3 2", "amplifier -1 -1", "amplifier 3 3");
        refused(state, INDEX, "why -1", "why 27", "concerned -1", "concerned 27");
        refused(state, INDEX, "inCase -1 0 0", "inCase 27 0 1", "inCase 0 -1 0", "inCase 0 7 1");
        refused(state, INDEX, "inCase -1 0 2", "inCase 27 0 -1", "inCase 0 -1 -1", "inCase 0 7 2", "inCase 27 7 2");
        refused(state, ARGUMENT, "inCase 0 0 -1", "inCase 0 6 2", "inCase 0 0 2", "inCase 0 6 -1");
        refused(state, INDEX, "trip -1 0", "trip -1 1", "trip 12 0", "trip 12 1");
        refused(state, INDEX, "ifValue -1 1", "ifValue 12 1", "ifValue -1 -999", "ifValue 12 999");
        refused(state, INDEX, "part -1 0", "part 12 3", "part -1 -1", "part 12 4");
        refused(state, ARGUMENT, "count -1", "count 10");
    }

    private static void emptyDesk(String state) {
        refused(state, INDEX, "setValue 0 1", "setValue 0 999", "drop 0", "sweep 0 1", "sweep 0 999");
        refused(state, INDEX, "current 0 0", "current 0 2", "amplifier 0 0", "amplifier 0 3");
        refused(state, INDEX, "why 1", "concerned 1", "inCase 1 0 0", "inCase 1 0 2");
        refused(state, INDEX, "trip 0 0", "trip 0 1", "ifValue 0 1", "ifValue 0 999", "part 0 0", "part 0 4");
        refused(state, STATE, "back 0", "back 1");
        refused("new", STATE, "undo");
    }

    /** The parts are a source, two resistors and an amplifier. */
    private static void inverter() {
        String state = "inverter";
        refused(state, INDEX, "setValue 4 1", "setValue 4 999", "drop 4", "sweep 4 1", "sweep 4 999");
        refused(state, INDEX, "current 4 0", "current 4 2", "amplifier 1 0", "amplifier 1 3");
        refused(state, INDEX, "why 3", "concerned 3", "inCase 3 0 0", "inCase 3 0 2");
        refused(state, INDEX, "trip 4 0", "trip 4 1", "ifValue 4 1", "ifValue 4 999", "part 4 0", "part 4 4");
        refused(state, STATE, "back 0");
        values(state, 0, 1, 3);
        whats(state, 1);
    }

    private static void fullDesk() {
        refused("full", STATE, "append 32", "append 126");
        refused("full", ARGUMENT, "append 31", "append 127");
        values("full", 0, 11, 7);
        values("full", 0, 1, 3);
        whats("full", 11);
    }

    /** The parts are two sources, an amplifier, and perhaps a resistor; the text in the buffer can't be loaded. */
    private static void notSettled(String state) {
        refused(state, STATE, "setValue 2 1", "setValue 2 999", "sweep 2 1", "sweep 2 -999", "trip 2 0", "trip 2 1");
        refused(state, STATE, "current 0 0", "current 0 2", "current 2 1", "current 2 -1");
        refused(state, STATE, "ifValue 2 1", "ifValue 2 999");
        refused(state, ARGUMENT, "setValue 1 201", "setValue 1 -201", "sweep 1 201", "sweep 1 -201");
        refused(state, ARGUMENT, "ifValue 1 201", "ifValue 1 -201", "amplifier 0 -1", "amplifier 0 3");
        refused(state, ARGUMENT, "part 0 -1", "part 0 4");
        refused(state, STATE, "back 1");
        refused("nothing determined", ARGUMENT, "load", "current 3 -1", "current 3 2");
        refused("not settled", STATE, "load");
    }

    private static void values(String state, int source, int resistor, int amplifier) {
        for (String call : new String[] {"setValue", "ifValue"}) {
            refused(state, ARGUMENT, call + " " + source + " 201", call + " " + source + " -201");
            refused(state, ARGUMENT, call + " " + resistor + " 0", call + " " + resistor + " 5");
            refused(state, ARGUMENT, call + " " + resistor + " -1", call + " " + resistor + " 200");
            refused(state, STATE, call + " " + amplifier + " 1", call + " " + amplifier + " 0");
            refused(state, STATE, call + " " + amplifier + " 201", call + " " + amplifier + " -201");
        }
        refused(state, ARGUMENT, "sweep " + source + " 201", "sweep " + source + " -201");
        for (int other : new int[] {resistor, amplifier}) {
            refused(state, STATE, "sweep " + other + " 1", "sweep " + other + " 201", "sweep " + other + " -201");
            refused(state, STATE, "trip " + other + " 0", "trip " + other + " 1");
        }
        for (int other : new int[] {source, amplifier}) {
            refused(state, STATE, "current " + other + " 0", "current " + other + " 2", "current " + other + " -1");
        }
    }

    private static void whats(String state, int resistor) {
        refused(state, ARGUMENT, "current " + resistor + " -1", "current " + resistor + " 2");
        refused(state, ARGUMENT, "amplifier 0 -1", "amplifier 0 3");
        refused(state, ARGUMENT, "part 0 -1", "part 0 4", "part " + resistor + " 4");
    }

    private static void refusedLoad(String state, String text, Class<? extends RuntimeException> due) {
        AmplifierDesk desk = States.desk(state);
        AmplifierDesk untouched = States.desk(state);
        desk.clearInput();
        untouched.clearInput();
        Check.type(desk, text);
        Check.type(untouched, text);
        refused(state + ": load of '" + text + "'", due, desk, untouched, "load");
    }

    private static void refused(String state, Class<? extends RuntimeException> due, String... calls) {
        for (String call : calls) {
            refused(state + ": " + call, due, States.desk(state), States.desk(state), call);
        }
    }

    private static void refused(String what, Class<? extends RuntimeException> due, AmplifierDesk desk,
            AmplifierDesk untouched, String call) {
        Check.throwing(what, due, desk, () ->
                States.run(call.split(" "), (name, a, b, c) -> Calls.run(desk, name, a, b, c)));
        Check.equal("all there is after " + what, allThereIs(desk), allThereIs(untouched));
    }

    /** The digests of the present, of all states in the history and of both images; the desk is used up by it. */
    private static String allThereIs(AmplifierDesk desk) {
        StringBuilder found = new StringBuilder();
        found.append(desk.digest());
        for (int i = 0; i < MOST_CALLS && desk.count(8) > 0; i++) {
            found.append(' ').append(desk.undo()).append(' ').append(desk.digest());
        }
        for (int image = 0; image < 2; image++) {
            if ((desk.count(9) >> image & 1) != 0) {
                found.append(' ').append(desk.back(image)).append(' ').append(desk.digest());
            }
        }
        return found.append(' ').append(desk.clearInput()).toString();
    }
}
