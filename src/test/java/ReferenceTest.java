/** Runs the same calls on the desk and on the reference; every answer and every exception must be the same. */
public final class ReferenceTest {
    private static final int RUNS = 250;
    private static final int CALLS = 120;
    private static final String[] CALL_NAMES = {"begin", "load", "setValue", "setRail", "drop", "sweep", "undo", "keep",
        "back", "append", "clearInput", "firstError", "voltage", "current", "amplifier", "why", "concerned", "inCase",
        "trip", "ifValue", "part", "count", "meanVoltage", "digest"};
    /** How often each of them is called, in the same order. */
    private static final int[] OFTEN = {1, 3, 14, 6, 5, 7, 7, 3, 4, 6, 2, 4, 10, 10, 8, 4, 4, 10, 7, 10, 4, 4, 3, 6};

    private final AmplifierDesk desk = new AmplifierDesk();
    private final ReferenceDesk reference = new ReferenceDesk();
    private final Chance chance;
    private final StringBuilder told = new StringBuilder();
    private int a;
    private int b;
    private int c;

    private ReferenceTest(long seed) {
        chance = new Chance(seed);
    }

    public static void main(String[] args) {
        int runs = args.length > 0 ? Integer.parseInt(args[0]) : RUNS;
        int first = args.length > 1 ? Integer.parseInt(args[1]) : 1;
        for (int run = first; run < first + runs; run++) {
            new ReferenceTest(run).run();
        }
        Check.end();
    }

    private void run() {
        for (int i = 0; i < CALLS; i++) {
            if (chance.below(5) == 0) {
                loadSome();
            }
            call();
        }
        compare("digest");
    }

    private void loadSome() {
        if (chance.below(3) != 0) {
            compare("clearInput");
        }
        String text = chance.below(4) == 0 ? chance.wild() : chance.text(desk.count(0));
        for (int i = 0; i < text.length(); i++) {
            a = text.charAt(i);
            compare("append");
        }
        compare("firstError");
        compare("load");
    }

    private void call() {
        int all = 0;
        for (int often : OFTEN) {
            all += often;
        }
        int number = 0;
        for (int drawn = chance.below(all); drawn >= OFTEN[number]; number++) {
            drawn -= OFTEN[number];
        }
        String name = CALL_NAMES[number];
        draw(name);
        compare(name);
    }

    private void draw(String name) {
        int parts = desk.count(0);
        int cases = desk.count(1) == 0 ? 1 : desk.count(1) == 1 ? 3 : desk.count(1) == 2 ? 9 : 27;
        a = chance.near(parts);
        b = chance.near(2);
        c = chance.near(2);
        switch (name) {
            case "setValue":
            case "ifValue":
            case "sweep":
                b = chance.below(3) == 0 ? chance.between(0, 5) : chance.between(-201, 201);
                break;
            case "setRail":
                a = chance.below(2) == 0 ? chance.between(9, 40) : chance.between(9, 201);
                break;
            case "keep":
            case "back":
                a = chance.near(2);
                break;
            case "append":
                a = chance.between(30, 128);
                break;
            case "voltage":
                a = chance.near(7);
                break;
            case "amplifier":
                a = chance.near(desk.count(1));
                b = chance.near(3);
                break;
            case "why":
            case "concerned":
                a = chance.near(cases);
                break;
            case "inCase":
                a = chance.near(cases);
                b = chance.near(7);
                break;
            case "part":
                b = chance.near(4);
                break;
            case "count":
                a = chance.near(10);
                break;
            default:
                break;
        }
    }

    private void compare(String name) {
        told.append(name).append(' ').append(a).append(' ').append(b).append(' ').append(c).append('\n');
        String got;
        try {
            got = "" + ofDesk(name);
        } catch (RuntimeException e) {
            got = e.getClass().getName();
        }
        String due;
        try {
            due = "" + ofReference(name);
        } catch (RuntimeException e) {
            due = e.getClass().getName();
        }
        Check.equal(name, got, due);
        if (!got.equals(due)) {
            System.out.println("after these calls with their arguments:\n" + told);
            Check.end();
        }
    }

    private long ofDesk(String name) {
        switch (name) {
            case "begin": return desk.begin();
            case "load": return desk.load();
            case "setValue": return desk.setValue(a, b);
            case "setRail": return desk.setRail(a);
            case "drop": return desk.drop(a);
            case "sweep": return desk.sweep(a, b);
            case "undo": return desk.undo();
            case "keep": return desk.keep(a);
            case "back": return desk.back(a);
            case "append": return desk.append(a);
            case "clearInput": return desk.clearInput();
            case "firstError": return desk.firstError();
            case "voltage": return desk.voltage(a, b);
            case "current": return desk.current(a, b);
            case "amplifier": return desk.amplifier(a, b);
            case "why": return desk.why(a);
            case "concerned": return desk.concerned(a);
            case "inCase": return desk.inCase(a, b, c);
            case "trip": return desk.trip(a, (b & 1) != 0);
            case "ifValue": return desk.ifValue(a, b);
            case "part": return desk.part(a, b);
            case "count": return desk.count(a);
            case "meanVoltage": return Double.doubleToRawLongBits(desk.meanVoltage());
            default: return desk.digest();
        }
    }

    private long ofReference(String name) {
        switch (name) {
            case "begin": return reference.begin();
            case "load": return reference.load();
            case "setValue": return reference.setValue(a, b);
            case "setRail": return reference.setRail(a);
            case "drop": return reference.drop(a);
            case "sweep": return reference.sweep(a, b);
            case "undo": return reference.undo();
            case "keep": return reference.keep(a);
            case "back": return reference.back(a);
            case "append": return reference.append(a);
            case "clearInput": return reference.clearInput();
            case "firstError": return reference.firstError();
            case "voltage": return reference.voltage(a, b);
            case "current": return reference.current(a, b);
            case "amplifier": return reference.amplifier(a, b);
            case "why": return reference.why(a);
            case "concerned": return reference.concerned(a);
            case "inCase": return reference.inCase(a, b, c);
            case "trip": return reference.trip(a, (b & 1) != 0);
            case "ifValue": return reference.ifValue(a, b);
            case "part": return reference.part(a, b);
            case "count": return reference.count(a);
            case "meanVoltage": return Double.doubleToRawLongBits(reference.meanVoltage());
            default: return reference.digest();
        }
    }
}
