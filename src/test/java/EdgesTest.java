/**
 * Every call with every argument at or next to a bound of the document, and with the least and the greatest int, in
 * states that are empty, full and not settled: the desk must answer and throw what the reference does.
 */
public final class EdgesTest {
    private static final int LEAST = Integer.MIN_VALUE;
    private static final int MOST = Integer.MAX_VALUE;
    private static final int[] INDEXES = {LEAST, -2, -1, 0, 1, 2, 3, 4, 5, 6, 7, 8, 9, 10, 11, 12, 13, 26, 27, 31, 32, 64,
        MOST};
    private static final int[] VALUES = {LEAST, -1000, -201, -200, -199, -150, -1, 0, 1, 2, 4, 5, 199, 200, 201, 1000,
        MOST};
    private static final int[] RAILS = {LEAST, -150, -10, -1, 0, 1, 9, 10, 11, 149, 150, 199, 200, 201, MOST};
    private static final int[] CODES = {LEAST, -1, 0, 10, 31, 32, 33, 45, 47, 48, 54, 55, 57, 58, 59, 60, 111, 114, 115,
        125, 126, 127, 128, 255, 256 + 's', 65536 + 's', MOST};
    private static final int[] SIDES = {LEAST, -1, 0, 1, 2, MOST};
    private static final int[] NOTHING = {0};

    public static void main(String[] args) {
        for (String state : States.NAMES) {
            for (String call : Calls.NAMES) {
                allArguments(state, call);
            }
        }
        Check.end();
    }

    private static void allArguments(String state, String call) {
        for (int a : firstOnes(call)) {
            Twins twins = new Twins();
            States.lead(state, twins::same);
            for (int b : secondOnes(call)) {
                for (int c : call.equals("inCase") ? SIDES : NOTHING) {
                    twins.same(call, a, b, c);
                }
            }
            whatThereIs(twins);
        }
    }

    private static int[] firstOnes(String call) {
        switch (call) {
            case "begin":
            case "load":
            case "undo":
            case "clearInput":
            case "firstError":
            case "meanVoltage":
            case "digest":
                return NOTHING;
            case "setRail":
                return RAILS;
            case "append":
                return CODES;
            default:
                return INDEXES;
        }
    }

    private static int[] secondOnes(String call) {
        switch (call) {
            case "setValue":
            case "ifValue":
            case "sweep":
                return VALUES;
            case "voltage":
            case "current":
            case "amplifier":
            case "inCase":
            case "part":
                return INDEXES;
            case "trip":
                return SIDES;
            default:
                return NOTHING;
        }
    }

    private static void whatThereIs(Twins twins) {
        twins.same("digest");
        twins.same("undo");
        twins.same("digest");
        twins.same("firstError");
        twins.same("clearInput");
    }
}
