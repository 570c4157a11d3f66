import java.math.BigInteger;

/** The bounds that the promises name beside those of the terms and of the throws clauses, promise by promise. */
public final class BoundsTest {
    private static final int NONE = AmplifierDesk.NONE;
    /**
     * A trigger, number 2, that is pushed high by a source between 0 and 20 alone, and else stays as it is: two
     * comparators that agree there push it, elsewhere they cancel each other out.
     */
    private static final String WINDOW = "s1-10;s3-20;o102;o314;r251;r451;r561;o506";

    public static void main(String[] args) {
        the512thCall();
        promise01TwoObjects();
        promise02FullAndEmpty();
        promise03FullAndEmpty();
        promise04FirstAndLastValues();
        promise05FirstAndLastRail();
        promise06FirstAndLastPart();
        promise07AllTheWay();
        promise07SettlesAfterEachStep();
        promise08FirstAndLast();
        promise09And10EmptyCircuit();
        promise11And12();
        promise13LastValues();
        promise14Fractions();
        promise15Fractions();
        promise15NotSettled();
        promise16Signs();
        promise19FirstAndLast();
        promise20FirstAndLastValue();
        promise20SettlesAfterEachStep();
        promise21FirstAndLastValues();
        promise22FirstAndLastPart();
        promise23FullAndEmpty();
        promise24NoNodes();
        promise25OfAnEmptyCircuit();
        promise25OfACircuit();
        promise25OfEachMean();
        promise25Overflows();
        Check.end();
    }

    /** "An object is used for at most 512 calls". */
    private static void the512thCall() {
        AmplifierDesk x = new AmplifierDesk();
        for (int call = 1; call <= 510; call++) {
            x.setRail(10 + call % 191);
        }
        Check.equal("the 511th call", x.undo(), 7);
        Check.equal("the 512th call", x.count(2), 10 + 509 % 191);
    }

    private static void promise01TwoObjects() {
        AmplifierDesk x = States.desk("full");
        AmplifierDesk y = new AmplifierDesk();
        Check.equal("parts of a new one", y.count(0), 0);
        Check.equal("history of a new one", y.count(8), 0);
        Check.equal("images of a new one", y.count(9), 0);
        Check.equal("buffer of a new one", y.clearInput(), 0);
        Check.equal("rail of a new one", y.count(2), 150);
        y.begin();
        Check.equal("the first one is as it was", x.count(0), 12);
        Check.equal("and its buffer, too", x.clearInput(), 60);
    }

    private static void promise02FullAndEmpty() {
        AmplifierDesk x = States.desk("full");
        Check.equal("begin of a full one", x.begin(), 12);
        Check.equal("begin of an empty one", x.begin(), 0);
        Check.equal("rail", x.count(2), 150);
        Check.equal("case", x.count(3), 0);
        Check.equal("settled", x.count(4), 1);
        Check.equal("used nodes", x.count(7), 0);
        AmplifierDesk y = States.desk("not settled");
        Check.equal("begin of one that is not settled", y.begin(), 3);
        Check.equal("is settled", y.count(4), 1);
        Check.equal("in the case 0", y.count(3), 0);
    }

    private static void promise03FullAndEmpty() {
        AmplifierDesk x = new AmplifierDesk();
        Check.equal("nothing", Check.load(x, ""), "IllegalArgumentException");
        Check.equal("the shortest text", Check.load(x, "s15"), "1");
        Check.equal("the same again", Check.load(x, "s15"), "IllegalStateException");
        Check.equal("refused ones are no changes", x.count(8), 1);
        Check.type(x, "");
        Check.equal("a refused text stays", x.clearInput(), 3);
        Check.equal("a cleared one is gone", Check.load(x, ""), "IllegalArgumentException");
    }

    private static void promise04FirstAndLastValues() {
        AmplifierDesk x = States.desk("full");
        int[] values = {-200, 200, 0, -1, 1};
        int before = 10;
        for (int value : values) {
            Check.equal("setValue of the first part to " + value, x.setValue(0, value), before);
            Check.equal("its voltage", x.inCase(26, 1, 0), value);
            before = value;
        }
        int units = 2;
        for (int value = 1; value <= 4; value++) {
            Check.equal("setValue of the last part to " + value, x.setValue(11, value), units);
            Check.equal("its conductance", x.part(11, 3), value);
            units = value;
        }
    }

    private static void promise05FirstAndLastRail() {
        AmplifierDesk x = Check.desk("s11;o102;o013");
        int before = 150;
        for (int rail : new int[] {10, 200, 11, 199}) {
            Check.equal("setRail(" + rail + ")", x.setRail(rail), before);
            Check.equal("a high output", Check.voltage(x, 2), rail + "/1");
            Check.equal("a low output", Check.voltage(x, 3), -rail + "/1");
            before = rail;
        }
    }

    private static void promise06FirstAndLastPart() {
        AmplifierDesk x = States.desk("full");
        Check.equal("the last part", x.drop(11), 11);
        Check.equal("the one before is the last", "" + x.part(10, 1) + x.part(10, 2) + x.part(10, 3), "302");
        Check.badIndex("drop(11)", x, () -> x.drop(11));
        Check.equal("the first part", x.drop(0), 10);
        Check.equal("the second one is the first", "" + x.part(0, 1) + x.part(0, 2) + x.part(0, 3), "121");
        Check.equal("the last one has come down", "" + x.part(9, 1) + x.part(9, 2) + x.part(9, 3), "302");
        Check.badIndex("drop(10)", x, () -> x.drop(10));
        for (int left = 9; left >= 0; left--) {
            Check.equal("drop", x.drop(left / 2), left);
        }
        Check.badIndex("drop of nothing", x, () -> x.drop(0));
        Check.equal("an empty circuit is settled", x.count(4), 1);
        Check.equal("in the case 0", x.count(3), 0);
    }

    private static void promise07AllTheWay() {
        // Three comparators switch on the way, each one once, two of them at the same step.
        AmplifierDesk x = Check.desk("s1-200;s2-199;s3199;o124;o135;o136");
        Check.equal("all low", x.count(3), 26);
        Check.equal("400 steps up", x.sweep(0, 200), 2);
        Check.equal("all high", x.count(3), 13);
        Check.equal("400 steps down", x.sweep(0, -200), 2);
        Check.equal("all low again", x.count(3), 26);
        Check.equal("no step", x.sweep(0, -200), 0);
        Check.equal("one step", x.sweep(0, -199), 0);
        Check.equal("another one", x.sweep(0, -198), 1);
        Check.equal("the value", x.part(0, 3), -198);
        Check.equal("each one is a change", x.count(8), 6);
        x.undo();
        x.undo();
        x.undo();
        Check.equal("the state before the sweep with no step", x.part(0, 3), -200);
        Check.equal("and its history", x.count(8), 3);
    }

    private static void promise07SettlesAfterEachStep() {
        AmplifierDesk x = window();
        x.setValue(0, 50);
        Check.equal("beyond the window at once", x.count(3), 1 + 2 * 3 + 2 * 9);
        AmplifierDesk y = window();
        Check.equal("two steps", y.sweep(0, 50), 2);
        Check.equal("through the window", y.count(3), 1 + 2 * 3 + 9);
        AmplifierDesk z = window();
        Check.equal("the first comparator and the trigger, at one step", z.sweep(0, 1), 1);
        Check.equal("in the window", z.count(3), 1 + 3 + 9);
        Check.equal("back", z.sweep(0, -50), 1);
        Check.equal("the trigger stays high", z.count(3), 2 + 3 + 9);
    }

    private static AmplifierDesk window() {
        AmplifierDesk x = Check.desk(WINDOW);
        Check.equal("all low", x.count(3), 26);
        x.setValue(0, -50);
        x.setValue(1, 20);
        Check.equal("the trigger is low", x.count(3), 2 + 3 + 2 * 9);
        return x;
    }

    private static void promise08FirstAndLast() {
        AmplifierDesk x = new AmplifierDesk();
        Check.badState("undo of nothing", x, () -> x.undo());
        x.begin();
        Check.equal("undo of the only one", x.undo(), 0);
        Check.badState("undo of nothing again", x, () -> x.undo());
        for (int i = 0; i < 9; i++) {
            x.setRail(100 + i);
        }
        for (int left = 7; left >= 0; left--) {
            Check.equal("undo", x.undo(), left);
            Check.equal("rail", x.count(2), 100 + left);
        }
        Check.badState("the first rail is gone: undo", x, () -> x.undo());
        // An image that is older than the history brings a state back; then it is undone.
        x.keep(0);
        x.setRail(50);
        x.back(0);
        Check.equal("undo of back", x.undo(), 1);
        Check.equal("the rail before back", x.count(2), 50);
        Check.equal("undo of the change before", x.undo(), 0);
        Check.equal("the rail before it", x.count(2), 100);
    }

    private static void promise09And10EmptyCircuit() {
        AmplifierDesk x = new AmplifierDesk();
        Check.equal("keep of the empty circuit", x.keep(0), 0);
        Check.equal("it is kept", x.count(9), 1);
        Check.load(x, Circuits.FULL);
        Check.equal("keep of the full circuit", x.keep(1), 12);
        Check.equal("back to the empty one", x.back(0), 0);
        Check.equal("it is settled", x.count(4), 1);
        Check.equal("its ground", Check.voltage(x, 0), "0/1");
        Check.equal("its node 1", Check.voltage(x, 1), "0/0");
        Check.equal("back to the full one", x.back(1), 12);
        Check.equal("back to where it is", x.back(1), 12);
        Check.equal("each one is a change", x.count(8), 4);
        AmplifierDesk y = States.desk("not settled");
        Check.equal("keep of one that is not settled", y.keep(1), 3);
        y.begin();
        Check.equal("back to it", y.back(1), 3);
        Check.equal("it is not settled", y.count(4), 0);
        Check.equal("in the case that it was in", y.count(3), 1);
    }

    private static void promise11And12() {
        AmplifierDesk x = new AmplifierDesk();
        Check.equal("clearInput of nothing", x.clearInput(), 0);
        for (int round = 0; round < 2; round++) {
            for (int length = 1; length <= 60; length++) {
                Check.equal("append", x.append(length % 2 == 0 ? 32 : 126), length);
            }
            Check.badState("the 61st", x, () -> x.append(32));
            Check.equal("clearInput of a full buffer", x.clearInput(), 60);
        }
        for (int code = -300; code <= 300; code++) {
            AmplifierDesk y = new AmplifierDesk();
            int appended = code;
            if (code >= 32 && code <= 126) {
                Check.equal("append(" + code + ")", y.append(code), 1);
            } else {
                Check.badArgument("append(" + code + ")", y, () -> y.append(appended));
            }
        }
    }

    /** "If it makes the number of a value greater than 200"; "1 to 3 digits, without leading zeros". */
    private static void promise13LastValues() {
        for (int value = 0; value <= 999; value++) {
            for (String sign : new String[] {"", "-"}) {
                String text = "s6" + sign + value;
                AmplifierDesk x = new AmplifierDesk();
                Check.type(x, text + ";");
                // Of a number above 200 the third digit is the wrong one, whatever stands behind it.
                Check.equal("firstError of " + text, x.firstError(), text.length() + (value > 200 ? -1 : 1));
                x.clearInput();
                Check.type(x, "s6" + sign + "0" + value);
                Check.equal("firstError of it with a leading zero", x.firstError(), 3 + sign.length());
                x.clearInput();
                Check.type(x, text + "0");
                int digits = ("" + value).length();
                boolean longer = digits == 1 && value > 0 || digits == 2 && value <= 20;
                int due = value > 200 ? text.length() - 1 : text.length() + (longer ? 1 : 0);
                Check.equal("firstError of " + text + "0", x.firstError(), due);
            }
        }
    }

    private static void promise14Fractions() {
        // A chain of six equal resistors from the source to the ground: node n lies at n sixths of the source.
        AmplifierDesk x = Check.desk("s6-30;r561;r541;r341;r321;r121;r101");
        String[] due = {"0/1", "-5/1", "-10/1", "-15/1", "-20/1", "-25/1", "-30/1"};
        for (int node = 0; node <= 6; node++) {
            Check.equal("node " + node, Check.voltage(x, node), due[node]);
        }
        x.setValue(0, -2);
        String[] thirds = {"0/1", "-1/3", "-2/3", "-1/1", "-4/3", "-5/3", "-2/1"};
        for (int node = 0; node <= 6; node++) {
            Check.equal("lowest terms at node " + node, Check.voltage(x, node), thirds[node]);
        }
        x.setValue(0, 0);
        for (int node = 0; node <= 6; node++) {
            Check.equal("zero at node " + node, Check.voltage(x, node), "0/1");
        }
        // From its end 6 upwards the nodes of this ladder lie at 1, 7/4, 61/16, 559/64, 5173/256, 47959/1024.
        AmplifierDesk y = Check.desk("s1200;r124;r203;r234;r303;r344;r403;r454;r503;r564;r603");
        Check.equal("the end of a ladder", Check.voltage(y, 6), "204800/47959");
        Check.equal("the node before", Check.voltage(y, 5), "358400/47959");
        y.setValue(0, 199);
        Check.equal("lowest terms, as 47959 is 199 times 241", Check.voltage(y, 6), "1024/241");
    }

    private static void promise15Fractions() {
        AmplifierDesk x = Check.desk("s12;r124;r023;r201;r561;r064;r604");
        // At node 2: 4 (2 - u) = 3 u + u, so u = 1.
        Check.equal("from the source", Check.current(x, 1), "4/1");
        Check.equal("from the ground", Check.current(x, 2), "-3/1");
        Check.equal("to the ground", Check.current(x, 3), "1/1");
        Check.equal("nothing flows", Check.current(x, 4), "0/1");
        Check.equal("zero from the ground", Check.current(x, 5), "0/1");
        x.setValue(0, 1);
        Check.equal("lowest terms", Check.current(x, 1), "2/1");
        Check.equal("a half", Check.current(x, 3), "1/2");
        x.setValue(0, -1);
        Check.equal("a positive denominator", Check.current(x, 3), "-1/2");
        Check.equal("the greatest current", Check.current(Check.desk("s1200;s2-200;r124"), 2), "1600/1");
        Check.equal("the least current", Check.current(Check.desk("s1200;s2-200;r214"), 2), "-1600/1");
    }

    /** "Both are 0 if the desk is not settled", though the present case has voltages. */
    private static void promise15NotSettled() {
        AmplifierDesk x = Check.desk(Circuits.GAP + ";r104;r032");
        Check.equal("settled: from the source", Check.current(x, 3), "40/1");
        Check.equal("settled: to the output", Check.current(x, 4), "-300/1");
        x.setValue(0, 5);
        Check.equal("not settled", x.count(4), 0);
        Check.equal("the voltage in the present case", Check.inCase(x, x.count(3), 1), "5/1");
        Check.equal("its voltage", Check.voltage(x, 1), "0/0");
        Check.equal("not settled: from the source", Check.current(x, 3), "0/0");
        Check.equal("not settled: to the output", Check.current(x, 4), "0/0");
        Check.equal("not settled: the sign", x.amplifier(0, 2), 0);
        x.setValue(0, 6);
        Check.equal("settled again", Check.current(x, 3), "24/1");
    }

    private static void promise16Signs() {
        AmplifierDesk x = Check.desk("s11;o102;o013;o054;r541");
        int[][] due = {{1, 1, 1}, {2, 2, -1}, {3, 0, 0}};
        for (int a = 0; a < 3; a++) {
            for (int what = 0; what < 3; what++) {
                Check.equal("amplifier(" + a + ", " + what + ")", x.amplifier(a, what), due[a][what]);
            }
        }
        x.setValue(0, 0);
        Check.equal("not settled", x.count(4), 0);
        for (int a = 0; a < 3; a++) {
            Check.equal("the state stays", x.amplifier(a, 1), due[a][1]);
            Check.equal("no sign", x.amplifier(a, 2), 0);
        }
        AmplifierDesk y = Check.desk(Circuits.SCHMITT);
        y.setValue(0, -149);
        Check.equal("the sign of a half", y.amplifier(0, 2), 1);
        y.sweep(0, -150);
        y.sweep(0, 149);
        Check.equal("the sign of minus a half", y.amplifier(0, 2), -1);
    }

    private static void promise19FirstAndLast() {
        AmplifierDesk x = Check.desk("s15;o104;o105;o106");
        Check.equal("the first case is not determined", Check.inCase(x, 0, 1), "0/0");
        Check.equal("nor is its ground", Check.inCase(x, 0, 0), "0/0");
        Check.equal("node 0 in the last case", Check.inCase(x, 26, 0), "0/1");
        Check.equal("node 6 in the last case", Check.inCase(x, 26, 6), "-150/1");
        Check.equal("node 6 in the present case", Check.inCase(x, 13, 6), "150/1");
        Check.equal("node 2 is not used", Check.inCase(x, 26, 2), "0/0");
        AmplifierDesk y = new AmplifierDesk();
        Check.equal("the ground of an empty circuit", Check.inCase(y, 0, 0), "0/1");
        Check.equal("node 6 of an empty circuit", Check.inCase(y, 0, 6), "0/0");
    }

    private static void promise20FirstAndLastValue() {
        AmplifierDesk x = Check.desk("s1150;s2199;o123");
        Check.equal("at the last value up", x.trip(0, true), 1200);
        Check.equal("none down", x.trip(0, false), NONE);
        x.setValue(0, 199);
        Check.equal("one step, from a desk that is not settled", x.trip(0, true), 1200);
        Check.equal("none down, as the case stayed", x.trip(0, false), NONE);
        x.setValue(0, 200);
        Check.equal("no step is left up", x.trip(0, true), NONE);
        Check.equal("down through the gap", x.trip(0, false), 1198);
        Check.equal("of the other source", x.trip(1, true), NONE);
        x.setValue(1, 200);
        Check.equal("in the gap at the end: up", x.trip(0, true), NONE);
        AmplifierDesk y = Check.desk("s1-150;s2-199;o123");
        Check.equal("at the last value down", y.trip(0, false), 800);
        Check.equal("none up", y.trip(0, true), NONE);
        y.setValue(0, -200);
        Check.equal("no step is left down", y.trip(0, false), NONE);
        Check.equal("up through the gap", y.trip(0, true), 802);
        AmplifierDesk z = Check.desk("s1-1;s20;o123");
        Check.equal("through 0", z.trip(0, true), 1001);
        z.setValue(0, 1);
        Check.equal("through 0 down", z.trip(0, false), 999);
        z.setValue(1, 2);
        z.setRail(10);
        Check.equal("nothing has changed", z.part(0, 3), 1);
        AmplifierDesk u = Check.desk(Circuits.INVERTER);
        u.setValue(0, 150);
        Check.equal("at the very first step", u.trip(0, true), 1151);
    }

    private static void promise20SettlesAfterEachStep() {
        AmplifierDesk x = window();
        Check.equal("into the window", x.trip(0, true), 1001);
        Check.equal("none away from it", x.trip(0, false), NONE);
        Check.equal("the trigger has stayed low", x.count(3), 2 + 3 + 2 * 9);
        x.sweep(0, 10);
        Check.equal("out of the window", x.trip(0, true), 1021);
        Check.equal("out of the window down", x.trip(0, false), 999);
    }

    private static void promise21FirstAndLastValues() {
        AmplifierDesk x = Check.desk("s10;s20;o123");
        int[][] due = {{-200, 2}, {-1, 2}, {0, NONE}, {1, 1}, {200, 1}};
        for (int[] row : due) {
            Check.equal("ifValue(0, " + row[0] + ")", x.ifValue(0, row[0]), row[1]);
            Check.equal("ifValue(1, " + -row[0] + ")", x.ifValue(1, -row[0]), row[1]);
        }
        Check.equal("nothing has changed", x.part(0, 3) + x.part(1, 3), 0);
        AmplifierDesk y = Check.desk("s150;r121;r231;o023");
        y.setRail(149);
        for (int units = 1; units <= 4; units++) {
            Check.equal("ifValue(1, " + units + ")", y.ifValue(1, units), units < 3 ? 0 : 2);
            Check.equal("ifValue(2, " + units + ")", y.ifValue(2, units), 0);
        }
        // It settles from the present case, straight to the value.
        AmplifierDesk z = window();
        Check.equal("not through the window", z.ifValue(0, 50), 1 + 2 * 3 + 2 * 9);
        Check.equal("into the window", z.ifValue(0, 19), 1 + 3 + 9);
        Check.equal("at its edge", z.ifValue(0, 20), NONE);
        Check.equal("without an amplifier", Check.desk("s15").ifValue(0, -200), 0);
        Check.equal("without an amplifier, not settled", Check.desk("r121").ifValue(0, 4), NONE);
    }

    private static void promise22FirstAndLastPart() {
        AmplifierDesk x = States.desk("full");
        int[][] due = {{1, 1, NONE, 10}, {0, 5, 0, 2}, {2, 1, 5, 6}};
        int[] parts = {0, 11, 7};
        for (int i = 0; i < parts.length; i++) {
            for (int what = 0; what <= 3; what++) {
                Check.equal("part(" + parts[i] + ", " + what + ")", x.part(parts[i], what), due[i][what]);
            }
        }
    }

    private static void promise23FullAndEmpty() {
        AmplifierDesk x = States.desk("full");
        int[] full = {12, 3, 147, x.count(3), 1, x.count(5), x.count(6), 126, 8, 3};
        int[] empty = {0, 0, 150, 0, 1, 1, 1, 0, 0, 0};
        for (int what = 0; what <= 9; what++) {
            Check.equal("count(" + what + ") of a full desk", x.count(what), full[what]);
            Check.equal("count(" + what + ") of a new one", new AmplifierDesk().count(what), empty[what]);
        }
        Check.equal("determined are all but those with amplifier 2 linear, which has no way back", x.count(6), 18);
        AmplifierDesk y = Check.desk("s15;o104;o105;o106");
        Check.equal("one of 27 holds", y.count(5), 1);
        Check.equal("8 of 27 are determined", y.count(6), 8);
        AmplifierDesk z = Check.desk("r011;o012");
        Check.equal("both inputs are 0, and none of 3 holds", z.count(5), 0);
        Check.equal("it is not settled", z.count(4), 0);
        // Three triggers that are high or low as they like.
        AmplifierDesk u = Check.desk("r121;o102;r341;o304;r561;o506");
        Check.equal("8 of 27 hold", u.count(5), 8);
        Check.equal("all are determined", u.count(6), 27);
    }

    private static void promise24NoNodes() {
        Check.bits("of no nodes", new AmplifierDesk().meanVoltage(), 0.0);
        AmplifierDesk x = Check.desk("s15");
        Check.bits("of one node", x.meanVoltage(), 5.0);
        x.drop(0);
        Check.bits("of no nodes again", x.meanVoltage(), 0.0);
        Check.bits("of all nodes", Check.desk("s11;s22;s33;s44;s55;s66").meanVoltage(), 3.5);
        Check.bits("of the least values", Check.desk("s1-200;s6-200").meanVoltage(), -200.0);
        Check.bits("of zeros", Check.desk("s10;s6-0").meanVoltage(), 0.0);
        Check.bits("not settled", States.desk("not settled").meanVoltage(), 0.0);
        Check.bits("a third", Check.desk("s11;r121;r202").meanVoltage(), (1.0 + 1.0 / 3.0) / 2.0);
        Check.bits("the ground does not count", Check.desk("s11;r011;r104").meanVoltage(), 1.0);
    }

    private static void promise25OfAnEmptyCircuit() {
        AmplifierDesk x = new AmplifierDesk();
        // The counts; the voltages of 7 nodes; why and concerned of the case 0; the mean; the length.
        Check.equal("of a new one", x.digest(), hash(0, 0, 150, 0, 1, 1, 1, 0, 0, 0,
                0, 1, 0, 0, 0, 0, 0, 0, 0, 0, 0, 0, 0, 0, 0, -1, 0, 0).longValue());
        x.append(126);
        x.append(32);
        Check.equal("with a text", x.digest(), hash(0, 0, 150, 0, 1, 1, 1, 0, 0, 0,
                0, 1, 0, 0, 0, 0, 0, 0, 0, 0, 0, 0, 0, 0, 0, -1, 0, 2, 126, 32).longValue());
    }

    private static void promise25OfACircuit() {
        AmplifierDesk x = Check.desk("s1-1;r121;o203;r201");
        x.keep(1);
        // Node 2 lies at -1/2, so the amplifier is low.
        long mean = Double.doubleToLongBits((-1.0 + -1.0 / 2.0 + -150.0) / 3.0);
        Check.equal("of a circuit", x.digest(), hash(4, 1, 150, 2, 1, 1, 2, 14, 1, 2,
                1, 1, -1, -1, 0, 1, 2, 1, 2, 2, 0, 3, 0, 2, 0, 1,
                0, 1, -1, 1, -1, 2, -150, 1, 0, 0, 0, 0, 0, 0,
                2, 2, -1,
                1, -1, 3, 0, 0, -1,
                mean, 0).longValue());
    }

    /** The bits of each whole mean, of halves and of quarters, powers of two and numbers just beside them included. */
    private static void promise25OfEachMean() {
        for (int value = -200; value <= 200; value++) {
            AmplifierDesk x = Check.desk("s1" + value);
            long mean = Double.doubleToLongBits(value);
            Check.equal("digest with the mean " + value, x.digest(), hash(1, 0, 150, 0, 1, 1, 1, 2, 1, 0,
                    1, 1, -1, value,
                    0, 1, value, 1, 0, 0, 0, 0, 0, 0, 0, 0, 0, 0, 0, -1, mean, 0).longValue());
            AmplifierDesk y = Check.desk("s1" + value + ";s20;s30;s40");
            mean = Double.doubleToLongBits(value / 4.0);
            Check.equal("digest with the mean " + value / 4.0, y.digest(), hash(4, 0, 150, 0, 1, 1, 1, 30, 1, 0,
                    1, 1, -1, value, 1, 2, -1, 0, 1, 3, -1, 0, 1, 4, -1, 0,
                    0, 1, value, 1, 0, 1, 0, 1, 0, 1, 0, 0, 0, 0, 0, -1, mean, 0).longValue());
        }
    }

    /** The hash as a number without an end is far too great for a long: only its last 64 bits are due. */
    private static void promise25Overflows() {
        BigInteger whole = hash(0, 0, 150, 0, 1, 1, 1, 0, 0, 0,
                0, 1, 0, 0, 0, 0, 0, 0, 0, 0, 0, 0, 0, 0, 0, -1, 0, 0);
        Check.equal("more than 64 bits", whole.bitLength() > 64 ? 1 : 0, 1);
        Check.equal("its last 64 bits", new AmplifierDesk().digest(), whole.longValue());
        AmplifierDesk full = States.desk("full");
        Check.equal("the digest of a full one is the same again", full.digest(), full.digest());
    }

    private static BigInteger hash(long... values) {
        BigInteger hash = BigInteger.valueOf(2081);
        for (long value : values) {
            hash = hash.multiply(BigInteger.valueOf(31)).add(BigInteger.valueOf(value));
        }
        return hash;
    }
}
