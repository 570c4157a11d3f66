/** The calls of the face by their names. */
final class Calls {
    static final String[] NAMES = {"begin", "load", "setValue", "setRail", "drop", "sweep", "undo", "keep", "back",
        "append", "clearInput", "firstError", "voltage", "current", "amplifier", "why", "concerned", "inCase", "trip",
        "ifValue", "part", "count", "meanVoltage", "digest"};

    private Calls() {
    }

    /** A call takes as many of the arguments as it has; the second one of trip() is "up" if it is odd. */
    static long run(AmplifierDesk desk, String name, int a, int b, int c) {
        switch (name) {
            case "begin": return desk.begin();
            case "load": return desk.load();
            case "setValue": return desk.setValue(a, b);
            case "setRail": return desk.setRail(a);
            case "drop": return desk.drop(a);
            case "sweep": return desk.sweep(a, b);
            case "undo": return desk.undo();
            case "keep": return desk.keep(a);
            case "back": return desk.back(a);
            case "append": return desk.append(a);
            case "clearInput": return desk.clearInput();
            case "firstError": return desk.firstError();
            case "voltage": return desk.voltage(a, b);
            case "current": return desk.current(a, b);
            case "amplifier": return desk.amplifier(a, b);
            case "why": return desk.why(a);
            case "concerned": return desk.concerned(a);
            case "inCase": return desk.inCase(a, b, c);
            case "trip": return desk.trip(a, (b & 1) != 0);
            case "ifValue": return desk.ifValue(a, b);
            case "part": return desk.part(a, b);
            case "count": return desk.count(a);
            case "meanVoltage": return Double.doubleToRawLongBits(desk.meanVoltage());
            case "digest": return desk.digest();
            default: throw new AssertionError(name);
        }
    }
}
