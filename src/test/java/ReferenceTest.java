/** Runs the same calls on the desk and on the reference; every answer and every exception must be the same. */
public final class ReferenceTest {
    private static final int RUNS = 300;
    /** A desk is used for 512 calls; the last round may take some 70. */
    private static final int CALLS = 430;
    /** How often each of Calls.NAMES is called, in the same order. */
    private static final int[] OFTEN = {1, 3, 14, 6, 5, 7, 7, 3, 4, 6, 2, 4, 10, 10, 8, 4, 4, 10, 7, 10, 4, 4, 3, 6};

    private final Twins twins = new Twins();
    private final Chance chance;
    private int a;
    private int b;
    private int c;

    private ReferenceTest(long seed) {
        chance = new Chance(seed);
    }

    public static void main(String[] args) {
        int runs = args.length > 0 ? Integer.parseInt(args[0]) : RUNS;
        int first = args.length > 1 ? Integer.parseInt(args[1]) : 1;
        for (int run = first; run < first + runs; run++) {
            new ReferenceTest(run).run();
        }
        Check.end();
    }

    private void run() {
        while (twins.calls() < CALLS) {
            if (chance.below(5) == 0) {
                loadSome();
            }
            call();
        }
        compare("digest");
    }

    private void loadSome() {
        if (chance.below(3) != 0) {
            compare("clearInput");
        }
        String text = chance.below(4) == 0 ? chance.wild() : chance.text(twins.count(0));
        twins.type(text);
        compare("firstError");
        compare("load");
    }

    private void call() {
        int all = 0;
        for (int often : OFTEN) {
            all += often;
        }
        int number = 0;
        for (int drawn = chance.below(all); drawn >= OFTEN[number]; number++) {
            drawn -= OFTEN[number];
        }
        String name = Calls.NAMES[number];
        draw(name);
        compare(name);
    }

    private void draw(String name) {
        int parts = twins.count(0);
        int amplifiers = twins.count(1);
        int cases = new int[] {1, 3, 9, 27}[amplifiers];
        a = chance.near(parts);
        b = chance.near(2);
        c = chance.near(2);
        switch (name) {
            case "setValue":
            case "ifValue":
            case "sweep":
                b = chance.below(3) == 0 ? chance.between(0, 5) : chance.between(-201, 201);
                break;
            case "setRail":
                a = chance.below(2) == 0 ? chance.between(9, 40) : chance.between(9, 201);
                break;
            case "keep":
            case "back":
                a = chance.near(2);
                break;
            case "append":
                a = chance.between(30, 128);
                break;
            case "voltage":
                a = chance.near(7);
                break;
            case "amplifier":
                a = chance.near(amplifiers);
                b = chance.near(3);
                break;
            case "why":
            case "concerned":
                a = chance.near(cases);
                break;
            case "inCase":
                a = chance.near(cases);
                b = chance.near(7);
                break;
            case "part":
                b = chance.near(4);
                break;
            case "count":
                a = chance.near(10);
                break;
            default:
                break;
        }
    }

    private void compare(String name) {
        twins.same(name, a, b, c);
    }
}
