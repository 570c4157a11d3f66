/** The desk and the reference side by side: a call goes to both, and every answer and exception must be the same. */
final class Twins {
    private final AmplifierDesk desk = new AmplifierDesk();
    private final ReferenceDesk reference = new ReferenceDesk();
    private final StringBuilder told = new StringBuilder();
    private int a;
    private int b;
    private int c;
    private int calls;

    /** The arguments are those of Calls.run(). */
    void same(String name, int first, int second, int third) {
        a = first;
        b = second;
        c = third;
        calls++;
        told.append(name).append(' ').append(a).append(' ').append(b).append(' ').append(c).append('\n');
        String got = answerOfDesk(name);
        String due = answerOfReference(name);
        Check.equal(name, got, due);
        if (!got.equals(due)) {
            System.out.println("after these calls with their arguments:\n" + told);
            Check.end();
        }
    }

    void same(String name) {
        same(name, 0, 0, 0);
    }

    /** How often the desk has been called. */
    int calls() {
        return calls;
    }

    /** What the reference counts, without a call of the desk. */
    int count(int what) {
        return reference.count(what);
    }

    void type(String text) {
        for (int i = 0; i < text.length(); i++) {
            same("append", text.charAt(i), 0, 0);
        }
    }

    private String answerOfDesk(String name) {
        try {
            return "" + Calls.run(desk, name, a, b, c);
        } catch (RuntimeException e) {
            return e.getClass().getName();
        }
    }

    private String answerOfReference(String name) {
        try {
            return "" + ofReference(name);
        } catch (RuntimeException e) {
            return e.getClass().getName();
        }
    }

    private long ofReference(String name) {
        switch (name) {
            case "begin": return reference.begin();
            case "load": return reference.load();
            case "setValue": return reference.setValue(a, b);
            case "setRail": return reference.setRail(a);
            case "drop": return reference.drop(a);
            case "sweep": return reference.sweep(a, b);
            case "undo": return reference.undo();
            case "keep": return reference.keep(a);
            case "back": return reference.back(a);
            case "append": return reference.append(a);
            case "clearInput": return reference.clearInput();
            case "firstError": return reference.firstError();
            case "voltage": return reference.voltage(a, b);
            case "current": return reference.current(a, b);
            case "amplifier": return reference.amplifier(a, b);
            case "why": return reference.why(a);
            case "concerned": return reference.concerned(a);
            case "inCase": return reference.inCase(a, b, c);
            case "trip": return reference.trip(a, (b & 1) != 0);
            case "ifValue": return reference.ifValue(a, b);
            case "part": return reference.part(a, b);
            case "count": return reference.count(a);
            case "meanVoltage": return Double.doubleToRawLongBits(reference.meanVoltage());
            case "digest": return reference.digest();
            default: throw new AssertionError(name);
        }
    }
}
