/** The bounds that the section "Terms" names, sentence by sentence, on both sides of each. */
public final class TermsTest {
    private static final String ARGUMENT = "IllegalArgumentException";
    private static final String STATE = "IllegalStateException";
    private static final String TWELVE = "r011;r011;r011;r011;r011;r011;r011;r011;r011;r011;r011;r011";
    /** Of a linear amplifier that follows the ground, of a high and of a low one. */
    private static final String[] OUTPUTS = {"0/1", "150/1", "-150/1"};
    private static final String[] CHANGES = {"begin", "load", "setValue 0 7", "setRail 99", "drop 0", "sweep 0 9",
        "back 0"};
    private static final String[] NO_CHANGES = {"keep 0", "keep 1", "append 114", "clearInput", "firstError",
        "voltage 1 0", "current 1 0", "amplifier 0 0", "why 0", "concerned 0", "inCase 0 0 0", "trip 0 0", "trip 0 1",
        "ifValue 0 200", "part 0 0", "count 8", "meanVoltage", "digest"};

    public static void main(String[] args) {
        everyResistor();
        everySource();
        everyAmplifier();
        theGroundIsZero();
        twelveParts();
        partsAreNumberedInTheirOrder();
        threeAmplifiers();
        amplifiersAreNumberedByThemselves();
        oneSourceOrOutputAtANode();
        theRail();
        usedNodes();
        numbersOfCases();
        exactlyOneSetOfVoltages();
        atTheRailAndBeyond();
        equalInputs();
        theOrderOfReasons();
        noCaseHolds();
        aNewAmplifierIsLinear();
        theCaseAlone();
        sixtyCharacters();
        eightStates();
        theOldestStateIsDropped();
        twoImages();
        Check.end();
    }

    // ---- circuits

    /** "There are the nodes 0 to 6"; "between two different nodes with a conductance of 1 to 4 units". */
    private static void everyResistor() {
        for (int number = 0; number < 1000; number++) {
            int first = number / 100;
            int second = number / 10 % 10;
            int units = number % 10;
            boolean is = first <= 6 && second <= 6 && first != second && units >= 1 && units <= 4;
            AmplifierDesk x = new AmplifierDesk();
            String text = "r" + first + second + units;
            Check.equal("load of " + text, Check.load(x, text), is ? "1" : ARGUMENT);
            if (is) {
                parts(text, x, 0, 0, first, second, units);
            }
        }
    }

    /** "A source at a node (not the ground) with a value of -200 to 200, which is the voltage of the node". */
    private static void everySource() {
        for (int node = 0; node <= 9; node++) {
            for (int value = -999; value <= 999; value += node == 1 || Math.abs(value) >= 199 ? 1 : 199) {
                boolean is = node >= 1 && node <= 6 && value >= -200 && value <= 200;
                AmplifierDesk x = new AmplifierDesk();
                String text = "s" + node + value;
                Check.equal("load of " + text, Check.load(x, text), is ? "1" : ARGUMENT);
                if (is) {
                    parts(text, x, 0, 1, node, AmplifierDesk.NONE, value);
                    Check.equal("voltage of " + text, Check.voltage(x, node), value + "/1");
                }
            }
        }
    }

    /** "The inputs are two different nodes; the output is a node other than the ground and the inputs." */
    private static void everyAmplifier() {
        for (int number = 0; number < 1000; number++) {
            int plus = number / 100;
            int minus = number / 10 % 10;
            int output = number % 10;
            boolean is = plus <= 6 && minus <= 6 && output <= 6 && plus != minus && output != 0 && output != plus
                    && output != minus;
            AmplifierDesk x = new AmplifierDesk();
            String text = "o" + plus + minus + output;
            Check.equal("load of " + text, Check.load(x, text), is ? "1" : ARGUMENT);
            if (is) {
                parts(text, x, 0, 2, plus, minus, output);
            }
        }
    }

    private static void parts(String text, AmplifierDesk x, int part, int... due) {
        for (int what = 0; what < due.length; what++) {
            Check.equal("part " + what + " of " + text, x.part(part, what), due[what]);
        }
    }

    /** "Node 0 is the ground, its voltage is 0." */
    private static void theGroundIsZero() {
        AmplifierDesk x = Check.desk("s1200;r104;o103;r031;o015");
        Check.equal("ground", Check.voltage(x, 0), "0/1");
        int determined = 0;
        for (int number = 0; number < 9; number++) {
            String got = Check.inCase(x, number, 0);
            determined += got.equals("0/1") ? 1 : 0;
            Check.equal("ground in case " + number, got, x.why(number) == 1 ? "0/0" : "0/1");
        }
        Check.equal("the determined cases", determined, x.count(6));
    }

    /** "A circuit has at most 12 parts". */
    private static void twelveParts() {
        Check.equal("12 parts at once", Check.load(new AmplifierDesk(), TWELVE), "12");
        Check.equal("13 parts at once", Check.load(new AmplifierDesk(),
                "s10;s20;s30;s40;s50;s60;r011;r011;r011;r011;r011;r011;r011"), STATE);
        AmplifierDesk x = Check.desk("r011");
        Check.equal("12 more", Check.load(x, TWELVE), STATE);
        Check.equal("11 more", Check.load(x, TWELVE.substring(5)), "12");
        Check.equal("1 more", Check.load(x, "r011"), STATE);
        Check.equal("drop", x.drop(11), 11);
        Check.equal("1 more where one was dropped", Check.load(x, "r011"), "12");
        x.begin();
        Check.equal("12 after begin", Check.load(x, TWELVE), "12");
        x.undo();
        Check.equal("12 after undo", Check.load(x, TWELVE), "12");
    }

    /** "Numbered from 0 in the order in which they were added". */
    private static void partsAreNumberedInTheirOrder() {
        AmplifierDesk x = Check.desk("r014;s25");
        Check.load(x, "o346;s1-7;r562;r203;r303;r404;r504;r602;r612;s4200");
        String[] due = {"0014", "12-15", "2346", "11-1-7", "0562", "0203", "0303", "0404", "0504", "0602", "0612",
            "14-1200"};
        for (int part = 0; part < due.length; part++) {
            Check.equal("part " + part, "" + x.part(part, 0) + x.part(part, 1) + x.part(part, 2) + x.part(part, 3),
                    due[part]);
        }
    }

    /** "There are at most 3 amplifiers". */
    private static void threeAmplifiers() {
        AmplifierDesk x = Check.desk("o013;o014");
        Check.equal("2 more", Check.load(x, "o015;o016"), STATE);
        Check.equal("1 more", Check.load(x, "o015"), "3");
        Check.equal("the fourth", Check.load(x, "o016"), STATE);
        Check.equal("a resistor is no amplifier", Check.load(x, "r011"), "4");
        x.drop(3);
        Check.equal("still the fourth", Check.load(x, "o016"), STATE);
        x.drop(0);
        Check.equal("where one was dropped", Check.load(x, "o016"), "3");
        Check.equal("count", x.count(1), 3);
        Check.equal("3 at once", Check.load(new AmplifierDesk(), "o013;o014;o015"), "3");
        Check.equal("4 at once", Check.load(new AmplifierDesk(), "o013;o014;o015;o016"), STATE);
    }

    /** "Which are also numbered by themselves, from 0, in the order of the parts". */
    private static void amplifiersAreNumberedByThemselves() {
        AmplifierDesk x = Check.desk("r011;o013;s25;o014");
        Check.load(x, "r011;o015");
        int[] due = {1, 3, 5};
        for (int a = 0; a < due.length; a++) {
            Check.equal("amplifier " + a, x.amplifier(a, 0), due[a]);
        }
        x.drop(0);
        x.drop(0);
        Check.equal("the second one is the first one then", x.amplifier(0, 0), 1);
        Check.equal("and the third one the second one", x.amplifier(1, 0), 3);
        Check.badIndex("amplifier(2, 0) of two", x, () -> x.amplifier(2, 0));
    }

    /** "A node can have only one of these: a source, the output of an amplifier." */
    private static void oneSourceOrOutputAtANode() {
        for (int node = 1; node <= 6; node++) {
            int other = node % 6 + 1;
            String[] ones = {"s" + node + "5", "s" + node + "0", "o0" + other + node, "o" + other + "0" + node};
            for (String one : ones) {
                for (String two : ones) {
                    String what = one + " and " + two;
                    Check.equal(what + " at once", Check.load(new AmplifierDesk(), one + ";" + two), STATE);
                    AmplifierDesk x = Check.desk(one);
                    Check.equal(what, Check.load(x, two), STATE);
                    Check.equal(what + " far behind", Check.load(x, "r011;s" + other + "0;" + two), STATE);
                    x.drop(0);
                    Check.equal(what + " after a drop", Check.load(x, two), "1");
                    Check.equal(what + " elsewhere", Check.load(x, "s" + other + "1"), "2");
                }
            }
        }
        Check.equal("six sources", Check.load(new AmplifierDesk(), "s11;s22;s33;s44;s55;s66"), "6");
    }

    /** "There is a rail, 10 to 200, at first 150." */
    private static void theRail() {
        AmplifierDesk x = new AmplifierDesk();
        Check.equal("at first", x.count(2), 150);
        for (int rail = -300; rail <= 300; rail++) {
            AmplifierDesk y = new AmplifierDesk();
            if (rail >= 10 && rail <= 200) {
                Check.equal("setRail(" + rail + ")", y.setRail(rail), 150);
                Check.equal("rail " + rail, y.count(2), rail);
            } else {
                int refused = rail;
                Check.badArgument("setRail(" + rail + ")", y, () -> y.setRail(refused));
            }
        }
    }

    /** "A node is used if a part is at it", by each of its ends. */
    private static void usedNodes() {
        Check.equal("none", new AmplifierDesk().count(7), 0);
        for (int node = 1; node <= 6; node++) {
            Check.equal("a resistor's first node", Check.desk("r" + node + "01").count(7), 1 << node);
            Check.equal("a resistor's second node", Check.desk("r0" + node + "1").count(7), 1 << node);
            Check.equal("a source's node", Check.desk("s" + node + "0").count(7), 1 << node);
            int other = node % 6 + 1;
            int output = other % 6 + 1;
            int both = 1 << node | 1 << output;
            Check.equal("a plus input", Check.desk("o" + node + "0" + output).count(7), both);
            Check.equal("a minus input and an output", Check.desk("o0" + node + output).count(7), both);
            AmplifierDesk x = Check.desk("s" + node + "0;r" + other + "01");
            x.drop(0);
            Check.equal("after its part was dropped", x.count(7), 1 << other);
            Check.equal("it is not used any more", Check.voltage(x, node), "0/0");
        }
        Check.equal("all", Check.desk("r121;r341;r561").count(7), 126);
    }

    // ---- cases

    /** "The sum, over all amplifiers a, of its state times 3 to the power of a." */
    private static void numbersOfCases() {
        for (int number = 0; number < 27; number++) {
            int[] states = {number % 3, number / 3 % 3, number / 9};
            AmplifierDesk x = new AmplifierDesk();
            for (int a = 0; a < 3; a++) {
                Check.load(x, amplifierIn(states[a], 2 * a + 1, 2 * a + 2));
            }
            Check.equal("the present case", x.count(3), number);
            Check.equal("it alone holds", x.count(5), 1);
            for (int a = 0; a < 3; a++) {
                Check.equal("amplifier " + a + " in case " + number, x.amplifier(a, 1), states[a]);
                Check.equal("its output", Check.inCase(x, number, 2 * a + 2), OUTPUTS[states[a]]);
            }
        }
        int[] cases = {1, 3, 9, 27};
        for (int amplifiers = 0; amplifiers <= 3; amplifiers++) {
            AmplifierDesk x = Check.desk("s15;o104;o105;o106".substring(0, 3 + 5 * amplifiers));
            int last = cases[amplifiers] - 1;
            Check.equal("the last case, all low", x.why(last), amplifiers == 0 ? 0 : 4);
            Check.equal("it is determined", Check.inCase(x, last, 1), "5/1");
            Check.badIndex("why of one more", x, () -> x.why(last + 1));
            Check.badIndex("concerned of one more", x, () -> x.concerned(last + 1));
            Check.badIndex("inCase of one more", x, () -> x.inCase(last + 1, 1, 0));
        }
    }

    /** An amplifier that must be in this state, with an input of its own; linear, it follows the ground. */
    private static String amplifierIn(int state, int input, int output) {
        switch (state) {
            case 0:
                return "o0" + input + output + ";r" + input + output + "1";
            case 1:
                return "s" + input + "5;o" + input + "0" + output;
            default:
                return "s" + input + "5;o0" + input + output;
        }
    }

    /** "A case is determined if there is exactly one such set of voltages". */
    private static void exactlyOneSetOfVoltages() {
        determined("", 1);
        determined("s15", 1);
        determined("s15;r121", 1);
        determined("r121;r201", 1);
        determined("r121", 0);
        determined("s15;r121;r344", 0);
        // The output may have any voltage, or, with different inputs, none is possible.
        determined("s15;s25;o123", 2);
        determined("s15;s26;o123", 2);
        // The way from the output leads to both inputs alike, so that it can't make them equal.
        determined("s15;r231;o123", 3);
        determined("r311;r321;o123", 2);
        determined("r311;r321;r101;o123", 3);
    }

    private static void determined(String text, int due) {
        AmplifierDesk x = text.isEmpty() ? new AmplifierDesk() : Check.desk(text);
        Check.equal("determined cases of " + text, x.count(6), due);
        int without = 0;
        for (int number = 0; number < (x.count(1) == 0 ? 1 : 3); number++) {
            boolean not = x.why(number) == 1;
            without += not ? 0 : 1;
            Check.equal("case " + number + " of " + text, Check.inCase(x, number, 0), not ? "0/0" : "0/1");
            Check.equal("concerned in it", not ? x.concerned(number) : -1, -1);
        }
        Check.equal("cases of " + text + " without reason 1", without, due);
    }

    /** Reason 2: "greater than the rail, or less than minus the rail". */
    private static void atTheRailAndBeyond() {
        for (int rail : new int[] {10, 150, 199}) {
            AmplifierDesk x = Check.desk(Circuits.INVERTER);
            x.setRail(rail);
            for (int sign = -1; sign <= 1; sign += 2) {
                x.setValue(0, -sign * rail);
                Check.equal("an output of " + Check.inCase(x, 0, 3), x.why(0), 0);
                x.setValue(0, -sign * (rail + 1));
                Check.equal("an output of " + Check.inCase(x, 0, 3), x.why(0), 2);
                Check.equal("is beyond", x.count(3), sign > 0 ? 1 : 2);
            }
        }
        // A gain of 3/4: the output is beyond the rail by a quarter.
        AmplifierDesk y = Check.desk("s1100;r123;r234;o023");
        y.setRail(75);
        Check.equal("-75", y.why(0), 0);
        y.setValue(0, 101);
        Check.equal("beyond", Check.inCase(y, 0, 3), "-303/4");
        Check.equal("-75 3/4", y.why(0), 2);
        y.setValue(0, -101);
        Check.equal("75 3/4", y.why(0), 2);
        y.setRail(76);
        Check.equal("75 3/4 of 76", y.why(0), 0);
        y.setValue(0, 101);
        Check.equal("-75 3/4 of 76", y.why(0), 0);
    }

    /** Reasons 3 and 4: "not greater than", "not less than". */
    private static void equalInputs() {
        AmplifierDesk x = Check.desk("s10;o102");
        int[][] due = {{-1, 3, 0}, {0, 3, 4}, {1, 0, 4}};
        for (int[] row : due) {
            x.setValue(0, row[0]);
            Check.equal("high with an input of " + row[0], x.why(1), row[1]);
            Check.equal("low with an input of " + row[0], x.why(2), row[2]);
        }
        // The input is halfway between the source and the output.
        AmplifierDesk y = Check.desk(Circuits.SCHMITT);
        y.setValue(0, -149);
        Check.equal("an input", Check.inCase(y, 1, 2), "1/2");
        Check.equal("high with an input of a half", y.why(1), 0);
        y.setValue(0, 149);
        Check.equal("another input", Check.inCase(y, 2, 2), "-1/2");
        Check.equal("low with an input of minus a half", y.why(2), 0);
    }

    /** "Of the reasons 2 to 5, those of a lower amplifier come first; of the same amplifier the lower number." */
    private static void theOrderOfReasons() {
        AmplifierDesk x = Check.desk("s15;r121;r231;o203;o104");
        reason(x, 0, 1, -1);
        reason(x, 6, 5, 0);
        reason(x, 3, 5, 0);
        reason(x, 7, 4, 1);
        reason(x, 4, 0, -1);
        x.setValue(0, 151);
        reason(x, 6, 2, 0);
        reason(x, 3, 2, 0);
        reason(x, 8, 4, 0);
        x.setValue(0, -151);
        reason(x, 3, 2, 0);
        reason(x, 4, 3, 0);
        reason(x, 5, 3, 1);
        AmplifierDesk y = Check.desk("s15;o104;r121;r231;o203");
        reason(y, 2, 4, 0);
        reason(y, 1, 5, 1);
        y.setValue(0, 151);
        reason(y, 1, 2, 1);
        reason(y, 2, 4, 0);
    }

    private static void reason(AmplifierDesk x, int number, int due, int amplifier) {
        Check.equal("why(" + number + ")", x.why(number), due);
        Check.equal("concerned(" + number + ")", x.concerned(number), amplifier);
    }

    // ---- states

    /** "If no case holds, the case stays as it was, and the desk is not settled." */
    private static void noCaseHolds() {
        for (int start : new int[] {4, 6}) {
            AmplifierDesk x = Check.desk(Circuits.GAP);
            x.setValue(0, start);
            int before = start < 5 ? 2 : 1;
            Check.equal("the case", x.count(3), before);
            x.setValue(0, 5);
            Check.equal("none holds", x.count(5), 0);
            Check.equal("not settled", x.count(4), 0);
            Check.equal("the case stays", x.count(3), before);
            x.setRail(20);
            Check.equal("and stays", x.count(3), before);
            x.setValue(0, start);
            Check.equal("settled", x.count(4), 1);
        }
    }

    /** "A new amplifier is linear before the desk settles". */
    private static void aNewAmplifierIsLinear() {
        AmplifierDesk x = Check.desk(Circuits.SCHMITT);
        x.setValue(0, -200);
        x.setValue(0, 0);
        Check.equal("it is low, though it could be high", x.count(3), 2);
        Check.equal("drop", x.drop(3), 3);
        Check.equal("the case alone", x.count(3), 0);
        Check.load(x, "o203");
        Check.equal("the new one goes from linear to the lower number", x.count(3), 1);
    }

    /** "A circuit without amplifiers has the case 0 alone." */
    private static void theCaseAlone() {
        for (String text : new String[] {"s15", "r121"}) {
            AmplifierDesk x = Check.desk(text);
            boolean holds = text.startsWith("s");
            Check.equal("case", x.count(3), 0);
            Check.equal("settled", x.count(4), holds ? 1 : 0);
            Check.equal("cases that hold", x.count(5), holds ? 1 : 0);
            Check.equal("why(0)", x.why(0), holds ? 0 : 1);
            Check.badIndex("why(1)", x, () -> x.why(1));
            Check.badIndex("concerned(1)", x, () -> x.concerned(1));
            Check.badIndex("inCase(1, 1, 0)", x, () -> x.inCase(1, 1, 0));
        }
        AmplifierDesk y = Check.desk("s15");
        Check.equal("there is no trip up", y.trip(0, true), AmplifierDesk.NONE);
        Check.equal("there is no trip down", y.trip(0, false), AmplifierDesk.NONE);
        Check.equal("no step changes the case", y.sweep(0, -200), 0);
    }

    // ---- input text

    /** "The buffer has at most 60 characters." */
    private static void sixtyCharacters() {
        AmplifierDesk x = new AmplifierDesk();
        String text = "s1-200;s2-200;s3200;s4100;s5-0;s60;r011;r011;r011;r011;r0114";
        Check.type(x, text.substring(0, 59));
        Check.equal("the 60th", x.append('4'), 60);
        Check.badState("the 61st", x, () -> x.append('4'));
        Check.equal("a full buffer with an error at its end", x.firstError(), 59);
        Check.badArgument("load of it", x, () -> x.load());
        Check.equal("clearInput", x.clearInput(), 60);
        String complete = "s1-200;s2-200;s3200;s4100;s510;s6-0;r011;r011;r011;r011;r011";
        Check.type(x, complete);
        Check.equal("a full buffer without an error", x.firstError(), 60);
        Check.equal("load of it", x.load(), 11);
        Check.equal("it is cleared", x.clearInput(), 0);
        Check.equal("the first one then", x.append('r'), 1);
    }

    // ---- history and images

    /** "A change is a call of .. that does not throw an exception." */
    private static void eightStates() {
        for (String change : CHANGES) {
            AmplifierDesk x = circuit();
            long before = x.digest();
            int states = x.count(8);
            call(x, change);
            Check.equal(change + " is a change", x.count(8), states + 1);
            Check.equal("undo of " + change, x.undo(), states);
            // load() has cleared the buffer, which is no part of the state.
            if (change.equals("load")) {
                Check.type(x, "r561;r601");
            }
            Check.equal("digest after undo of " + change, x.digest(), before);
        }
        for (String call : NO_CHANGES) {
            AmplifierDesk x = circuit();
            int states = x.count(8);
            call(x, call);
            Check.equal(call + " is no change", x.count(8), states);
        }
    }

    private static AmplifierDesk circuit() {
        AmplifierDesk x = Check.desk(Circuits.INVERTER);
        x.keep(0);
        x.setRail(120);
        Check.type(x, "r561;r601");
        return x;
    }

    private static void call(AmplifierDesk x, String line) {
        States.run(line.split(" "), (name, a, b, c) -> Calls.run(x, name, a, b, c));
    }

    /** "A history of at most 8 states is kept .. when one more is recorded, the oldest one is dropped." */
    private static void theOldestStateIsDropped() {
        for (String change : CHANGES) {
            AmplifierDesk x = circuit();
            for (int i = 0; i < 6; i++) {
                x.setRail(20 + i);
            }
            Check.equal("eight states", x.count(8), 8);
            call(x, change);
            Check.equal("eight states after " + change, x.count(8), 8);
            for (int left = 7; left >= 0; left--) {
                Check.equal("undo", x.undo(), left);
                Check.equal("the rail then", x.count(2), left > 1 ? 18 + left : left == 1 ? 120 : 150);
                Check.equal("the parts then", x.count(0), 4);
            }
            Check.badState("the empty circuit before the load is gone: undo", x, () -> x.undo());
        }
    }

    /** "There are 2 images, which keep a state each." */
    private static void twoImages() {
        AmplifierDesk x = Check.desk(Circuits.SCHMITT);
        Check.badState("back(0) ahead of keep(0)", x, () -> x.back(0));
        x.keep(1);
        Check.badState("back(0) after keep(1)", x, () -> x.back(0));
        x.setValue(0, -200);
        x.setRail(77);
        x.keep(0);
        x.begin();
        x.setRail(33);
        Check.equal("image 1", x.back(1), 4);
        Check.equal("its rail, case and value", x.count(2) * 10000 + x.count(3) * 1000 + x.part(0, 3), 1501000);
        Check.equal("image 0", x.back(0), 4);
        Check.equal("its rail, case and value", x.count(2) * 10000 + x.count(3) * 1000 + x.part(0, 3), 771800);
        Check.equal("keep(1) again", x.keep(1), 4);
        x.begin();
        x.back(1);
        Check.equal("in place of what it kept", x.count(2), 77);
        Check.badIndex("keep(2)", x, () -> x.keep(2));
        Check.badIndex("back(2)", x, () -> x.back(2));
    }
}
