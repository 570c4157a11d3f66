/** States at the bounds of the document, told as the calls that lead to them. */
final class States {
    interface Caller {
        void call(String name, int a, int b, int c);
    }

    static final String[] NAMES = {"new", "begun", "inverter", "full", "not settled", "nothing determined"};

    private States() {
    }

    static void lead(String state, Caller caller) {
        for (String line : callsTo(state)) {
            String[] words = line.split(" ");
            if (words[0].equals("type")) {
                for (int i = 0; i < words[1].length(); i++) {
                    caller.call("append", words[1].charAt(i), 0, 0);
                }
            } else {
                run(words, caller);
            }
        }
    }

    /** "setValue 0 5" as a call; what is not told is 0. */
    static void run(String[] words, Caller caller) {
        int[] arguments = new int[3];
        for (int i = 1; i < words.length; i++) {
            arguments[i - 1] = Integer.parseInt(words[i]);
        }
        caller.call(words[0], arguments[0], arguments[1], arguments[2]);
    }

    static AmplifierDesk desk(String state) {
        AmplifierDesk desk = new AmplifierDesk();
        lead(state, (name, a, b, c) -> Calls.run(desk, name, a, b, c));
        return desk;
    }

    private static String[] callsTo(String state) {
        switch (state) {
            case "new":
                return new String[] {};
            case "begun":
                return new String[] {"type " + Circuits.INVERTER_AND_SCHMITT, "load", "begin", "type ;"};
            case "inverter":
                return new String[] {"type " + Circuits.INVERTER, "load", "keep 1", "setRail 140", "type r561"};
            case "full":
                return full();
            case "not settled":
                return new String[] {"type " + Circuits.GAP, "load", "keep 0", "setValue 0 5", "type s1-2"};
            case "nothing determined":
                return new String[] {"type " + Circuits.GAP + ";r561", "load", "type q"};
            default:
                throw new AssertionError(state);
        }
    }

    /** Full are the parts, the amplifiers, the history, the images, and the buffer, with a complete text. */
    private static String[] full() {
        return new String[] {"type " + Circuits.FULL, "load", "keep 0", "setRail 140", "setRail 141", "setRail 142",
            "setRail 143", "setRail 144", "setRail 145", "setRail 146", "setRail 147", "keep 1",
            "type s1200;s2-200;s30;s4-0;s59;s6-1;r011;r124;r561;o123;o124;o125"};
    }
}
