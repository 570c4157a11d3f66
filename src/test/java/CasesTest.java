/** Promises 14 to 21: voltage, current, amplifier; why, concerned, inCase; trip, ifValue. */
public final class CasesTest {
    public static void main(String[] args) {
        promise14Voltage();
        promise15Current();
        promise16Amplifier();
        promise17And18InOrder();
        promise17Reasons();
        promise17NegativeFeedback();
        promise17NotDetermined();
        promise19InCase();
        promise20Trip();
        promise21IfValue();
        Check.end();
    }

    private static void promise14Voltage() {
        AmplifierDesk x = Check.desk("s1100;r121;r202;r231;r303");
        Check.equal("ground", Check.voltage(x, 0), "0/1");
        Check.equal("source", Check.voltage(x, 1), "100/1");
        // At node 2: 1 (u - 100) + 2 u + 1 (u - v) = 0, at node 3: 1 (v - u) + 3 v = 0; u = 4 v, 15 v = 100.
        Check.equal("node 2", Check.voltage(x, 2), "80/3");
        Check.equal("node 3", Check.voltage(x, 3), "20/3");
        Check.equal("unused node", Check.voltage(x, 4), "0/0");
        x.setValue(0, -100);
        Check.equal("a negative one", Check.voltage(x, 3), "-20/3");
        x.setValue(0, 0);
        Check.equal("zero", Check.voltage(x, 3), "0/1");
        Check.badIndex("voltage(-1, 0)", x, () -> x.voltage(-1, 0));
        Check.badIndex("voltage(7, 2)", x, () -> x.voltage(7, 2));
        Check.badArgument("voltage(1, -1)", x, () -> x.voltage(1, -1));
        Check.badArgument("voltage(1, 2)", x, () -> x.voltage(1, 2));
        Check.badArgument("voltage(6, 2) of an unused node", x, () -> x.voltage(6, 2));
        x.drop(0);
        Check.equal("without a source all is 0", Check.voltage(x, 1), "0/1");
        AmplifierDesk y = Check.desk("r121;s35");
        Check.equal("not settled: ground", Check.voltage(y, 0), "0/0");
        Check.equal("not settled: source", Check.voltage(y, 3), "0/0");
        Check.equal("not settled: floating", Check.voltage(y, 1), "0/0");
        Check.badArgument("voltage(0, 2), not settled", y, () -> y.voltage(0, 2));
        Check.badIndex("voltage(7, 0), not settled", y, () -> y.voltage(7, 0));
    }

    private static void promise15Current() {
        AmplifierDesk y = Check.desk("s1100;r121;r202;r231;r303");
        Check.equal("through the first", Check.current(y, 1), "220/3");
        Check.equal("through the second", Check.current(y, 2), "160/3");
        Check.equal("through the third", Check.current(y, 3), "20/1");
        Check.equal("through the fourth", Check.current(y, 4), "20/1");
        Check.badIndex("current(-1, 0)", y, () -> y.current(-1, 0));
        Check.badIndex("current(5, 2)", y, () -> y.current(5, 2));
        Check.badState("current(0, 0)", y, () -> y.current(0, 0));
        Check.badState("current(0, 2)", y, () -> y.current(0, 2));
        Check.badArgument("current(1, 2)", y, () -> y.current(1, 2));
        Check.badArgument("current(1, -1)", y, () -> y.current(1, -1));
        AmplifierDesk z = Check.desk(Circuits.INVERTER);
        Check.equal("to the virtual ground", Check.current(z, 1), "10/1");
        Check.badState("current of an amplifier", z, () -> z.current(3, 0));
        z.setValue(0, 0);
        Check.equal("none", Check.current(z, 1), "0/1");
        AmplifierDesk u = Check.desk("r124;s35");
        Check.equal("not settled", Check.current(u, 0), "0/0");
        Check.badArgument("current(0, 2), not settled", u, () -> u.current(0, 2));
        AmplifierDesk w = Check.desk(Circuits.SCHMITT);
        w.inCase(2, 2, 0);
        Check.equal("in the present case, whichever was asked for before", Check.current(w, 1), "-75/1");
        w.inCase(2, 2, 0);
        Check.equal("its sign, too", w.amplifier(0, 2), 1);
        AmplifierDesk v = Check.desk("s17;r014;r104");
        Check.equal("from the ground", Check.current(v, 1), "-28/1");
        Check.equal("to the ground", Check.current(v, 2), "28/1");
    }

    private static void promise16Amplifier() {
        AmplifierDesk x = Check.desk("s120;o103;r301;s2-20;o204");
        Check.equal("part of 0", x.amplifier(0, 0), 1);
        Check.equal("state of 0", x.amplifier(0, 1), 1);
        Check.equal("sign of 0", x.amplifier(0, 2), 1);
        Check.equal("part of 1", x.amplifier(1, 0), 4);
        Check.equal("state of 1", x.amplifier(1, 1), 2);
        Check.equal("sign of 1", x.amplifier(1, 2), -1);
        Check.badIndex("amplifier(-1, 0)", x, () -> x.amplifier(-1, 0));
        Check.badIndex("amplifier(2, 0)", x, () -> x.amplifier(2, 0));
        Check.badIndex("amplifier(2, 3)", x, () -> x.amplifier(2, 3));
        Check.badArgument("amplifier(0, -1)", x, () -> x.amplifier(0, -1));
        Check.badArgument("amplifier(0, 3)", x, () -> x.amplifier(0, 3));
        AmplifierDesk y = Check.desk(Circuits.INVERTER);
        Check.equal("a linear one", y.amplifier(0, 1), 0);
        Check.equal("has equal inputs", y.amplifier(0, 2), 0);
        AmplifierDesk z = Check.desk("s110;s25;o123");
        z.setValue(0, 5);
        z.setRail(11);
        Check.equal("not settled: state", z.amplifier(0, 1), 1);
        Check.equal("not settled: sign", z.amplifier(0, 2), 0);
        AmplifierDesk u = Check.desk("s110;s25;o123;r561");
        Check.equal("not settled, and nothing determined: state", u.amplifier(0, 1), 0);
        Check.equal("not settled, and nothing determined: sign", u.amplifier(0, 2), 0);
        u.drop(2);
        Check.badIndex("amplifier(0, 0) of none", u, () -> u.amplifier(0, 0));
    }

    private static void verdict(AmplifierDesk x, int number, int reason, int amplifier) {
        Check.equal("why(" + number + ")", x.why(number), reason);
        Check.equal("concerned(" + number + ")", x.concerned(number), amplifier);
    }

    private static void promise17And18InOrder() {
        AmplifierDesk x = Check.desk(Circuits.INVERTER_AND_SCHMITT);
        // The inverter has -10 at its output, and the trigger's input is halfway between that and its output.
        int[][] due = {{5, 1}, {3, 0}, {4, 0}, {0, -1}, {3, 0}, {4, 0}, {0, -1}, {3, 0}, {4, 0}};
        for (int number = 0; number < due.length; number++) {
            verdict(x, number, due[number][0], due[number][1]);
        }
        for (int number = due.length - 1; number >= 0; number--) {
            Check.equal("concerned(" + number + ") alone", x.concerned(number), due[number][1]);
        }
        Check.badIndex("why(-1)", x, () -> x.why(-1));
        Check.badIndex("why(9)", x, () -> x.why(9));
        Check.badIndex("concerned(-1)", x, () -> x.concerned(-1));
        Check.badIndex("concerned(9)", x, () -> x.concerned(9));
        AmplifierDesk y = Check.desk("r011");
        Check.equal("without amplifiers there is the case 0", y.why(0), 0);
        Check.badIndex("and no case 1", y, () -> y.why(1));
        Check.badIndex("and none is concerned in it", y, () -> y.concerned(1));
        AmplifierDesk z = Check.desk("s120;s2-20;o103;o204;o105");
        Check.equal("the last of 27 cases", z.why(26), 4);
        Check.badIndex("why(27)", z, () -> z.why(27));
    }

    private static void promise17Reasons() {
        AmplifierDesk x = Check.desk(Circuits.INVERTER);
        verdict(x, 0, 0, -1);
        verdict(x, 1, 3, 0);
        verdict(x, 2, 4, 0);
        x.setValue(0, 150);
        verdict(x, 0, 0, -1);
        verdict(x, 2, 4, 0);
        x.setValue(0, 151);
        verdict(x, 0, 2, 0);
        verdict(x, 2, 0, -1);
        x.setValue(0, -150);
        verdict(x, 0, 0, -1);
        verdict(x, 1, 3, 0);
        x.setValue(0, -151);
        verdict(x, 0, 2, 0);
        verdict(x, 1, 0, -1);
        AmplifierDesk z = Check.desk("s1-150;r122;r232;o023");
        verdict(z, 0, 0, -1);
        z.setValue(0, -151);
        verdict(z, 0, 2, 0);
        z.setValue(1, 1);
        Check.equal("a gain of a half", Check.inCase(z, 0, 3), "151/2");
        verdict(z, 0, 0, -1);
        z.setRail(75);
        verdict(z, 0, 2, 0);
        z.setRail(76);
        verdict(z, 0, 0, -1);
        AmplifierDesk y = Check.desk(Circuits.SCHMITT);
        verdict(y, 0, 5, 0);
        verdict(y, 1, 0, -1);
        verdict(y, 2, 0, -1);
        y.setValue(0, 150);
        verdict(y, 0, 5, 0);
        verdict(y, 2, 4, 0);
        y.setValue(0, 151);
        verdict(y, 0, 2, 0);
        y.setValue(0, -150);
        verdict(y, 1, 3, 0);
        verdict(y, 2, 0, -1);
    }

    private static void promise17NegativeFeedback() {
        // Both inputs at 1/2 and 2/3 of the output: negative; exchanged: positive.
        AmplifierDesk y = Check.desk("r131;r101;r232;r201;o123;r411;s45");
        Check.equal("less at the plus input", y.why(0), 0);
        AmplifierDesk z = Check.desk("r131;r101;r232;r201;o213;r411;s45");
        verdict(z, 0, 5, 0);
        // The plus input is a source, which counts as 0.
        AmplifierDesk u = Check.desk("s1-30;o123;r201;r231");
        Check.equal("a follower with a divider", u.why(0), 0);
        Check.equal("doubles", Check.voltage(u, 3), "-60/1");
        AmplifierDesk f = Check.desk("s1-30;o123;r231");
        Check.equal("a follower", f.why(0), 0);
        Check.equal("follows", Check.voltage(f, 3), "-30/1");
        AmplifierDesk v = Check.desk("s130;o213;r201;r231");
        verdict(v, 0, 5, 0);
        // The way back of the first leads through the inverter, so it is negative with exchanged inputs. The
        // output of the inverter at 1 contradicts the first one's rule, which is not determined, so 1 is concerned.
        AmplifierDesk w = Check.desk("s120;o213;r341;r451;o045;r521;r201");
        verdict(w, 0, 5, 1);
        AmplifierDesk q = Check.desk("s120;o123;r341;r451;o045;r521;r201");
        verdict(q, 0, 5, 0);
    }

    private static void promise17NotDetermined() {
        AmplifierDesk x = Check.desk("s110;s25;o123;r561");
        for (int number = 0; number < 3; number++) {
            verdict(x, number, 1, -1);
        }
        Check.equal("none determined", x.count(6), 0);
        AmplifierDesk y = Check.desk("s110;s25;o123");
        verdict(y, 0, 1, -1);
        verdict(y, 1, 0, -1);
        verdict(y, 2, 4, 0);
        y.setValue(0, 5);
        verdict(y, 0, 1, -1);
        verdict(y, 1, 3, 0);
        verdict(y, 2, 4, 0);
        // Reason 1 is ahead of all others, whatever is so with a lower amplifier.
        AmplifierDesk z = Check.desk("s110;s2200;s35;o324;o125");
        verdict(z, 1, 1, -1);
        verdict(z, 3 + 1, 3, 0);
        AmplifierDesk u = Check.desk("s15;o123");
        Check.equal("the minus input hangs free, unless the amplifier is linear", u.count(6), 0);
    }

    private static void promise19InCase() {
        AmplifierDesk x = Check.desk(Circuits.INVERTER);
        Check.equal("linear: output", Check.inCase(x, 0, 3), "-10/1");
        Check.equal("linear: input", Check.inCase(x, 0, 2), "0/1");
        Check.equal("high: output", Check.inCase(x, 1, 3), "150/1");
        Check.equal("high: input", Check.inCase(x, 1, 2), "80/1");
        Check.equal("low: output", Check.inCase(x, 2, 3), "-150/1");
        Check.equal("low: input", Check.inCase(x, 2, 2), "-70/1");
        Check.equal("low: source", Check.inCase(x, 2, 1), "10/1");
        Check.equal("low: ground", Check.inCase(x, 2, 0), "0/1");
        Check.equal("low: unused", Check.inCase(x, 2, 4), "0/0");
        x.setRail(11);
        Check.equal("high with another rail", Check.inCase(x, 1, 2), "21/2");
        Check.badIndex("inCase(3, 0, 0)", x, () -> x.inCase(3, 0, 0));
        Check.badIndex("inCase(-1, 0, 0)", x, () -> x.inCase(-1, 0, 0));
        Check.badIndex("inCase(0, 7, 0)", x, () -> x.inCase(0, 7, 0));
        Check.badIndex("inCase(0, -1, 2)", x, () -> x.inCase(0, -1, 2));
        Check.badIndex("inCase(3, 0, 2)", x, () -> x.inCase(3, 0, 2));
        Check.badArgument("inCase(0, 0, 2)", x, () -> x.inCase(0, 0, 2));
        Check.badArgument("inCase(0, 0, -1)", x, () -> x.inCase(0, 0, -1));
        AmplifierDesk y = Check.desk("s110;s25;o123");
        Check.equal("not determined: ground", Check.inCase(y, 0, 0), "0/0");
        Check.equal("not determined: source", Check.inCase(y, 0, 1), "0/0");
        Check.equal("determined: output", Check.inCase(y, 2, 3), "-150/1");
        y.setValue(0, 5);
        Check.equal("not settled: a determined case has voltages", Check.inCase(y, 2, 3), "-150/1");
    }

    private static void promise20Trip() {
        AmplifierDesk x = Check.desk(Circuits.SCHMITT);
        Check.equal("down", x.trip(0, false), 850);
        Check.equal("up", x.trip(0, true), AmplifierDesk.NONE);
        x.sweep(0, -200);
        Check.equal("up from low", x.trip(0, true), 1150);
        Check.equal("down from low", x.trip(0, false), AmplifierDesk.NONE);
        Check.equal("nothing changes", x.part(0, 3), -200);
        Check.equal("nothing changes: case", x.count(3), 2);
        Check.equal("nothing changes: history", x.count(8), 2);
        x.setRail(200);
        Check.equal("at the last value", x.trip(0, true), 1200);
        AmplifierDesk y = Check.desk(Circuits.INVERTER);
        Check.equal("inverter up", y.trip(0, true), 1151);
        Check.equal("inverter down", y.trip(0, false), 849);
        y.setRail(200);
        Check.equal("inverter never", y.trip(0, true), AmplifierDesk.NONE);
        y.sweep(0, 200);
        Check.equal("no step left", y.trip(0, true), AmplifierDesk.NONE);
        Check.badIndex("trip(-1)", y, () -> y.trip(-1, true));
        Check.badIndex("trip(4)", y, () -> y.trip(4, true));
        Check.badState("trip of a resistor", y, () -> y.trip(1, true));
        Check.badState("trip of an amplifier", y, () -> y.trip(3, false));
        AmplifierDesk z = Check.desk("s110;s25;o123");
        Check.equal("not at the gap, but behind it", z.trip(0, false), 1004);
        z.setValue(0, 5);
        Check.equal("from the gap to the case that it was in: none", z.trip(0, true), AmplifierDesk.NONE);
        Check.equal("from the gap to another one", z.trip(0, false), 1004);
    }

    private static void promise21IfValue() {
        AmplifierDesk x = Check.desk(Circuits.SCHMITT);
        Check.equal("still high", x.ifValue(0, -149), 1);
        Check.equal("low", x.ifValue(0, -150), 2);
        Check.equal("high", x.ifValue(0, 200), 1);
        Check.equal("nothing changes", x.part(0, 3), 0);
        Check.equal("nothing changes: case", x.count(3), 1);
        Check.equal("nothing changes: history", x.count(8), 1);
        AmplifierDesk y = Check.desk(Circuits.INVERTER);
        y.setValue(0, 40);
        Check.equal("a gain of 4 is not beyond 160", y.ifValue(1, 3), 0);
        Check.equal("but 160 is beyond the rail", y.ifValue(1, 4), 2);
        Check.equal("the conductance stays", y.part(1, 3), 1);
        Check.equal("the output stays", Check.voltage(y, 3), "-40/1");
        AmplifierDesk z = Check.desk("s110;s25;o123");
        Check.equal("not settled", z.ifValue(0, 5), AmplifierDesk.NONE);
        Check.equal("settled", z.ifValue(1, 200), 2);
        Check.badIndex("ifValue(-1, 1)", z, () -> z.ifValue(-1, 1));
        Check.badIndex("ifValue(3, 999)", z, () -> z.ifValue(3, 999));
        Check.badState("ifValue(2, 1)", z, () -> z.ifValue(2, 1));
        Check.badState("ifValue(2, 999)", z, () -> z.ifValue(2, 999));
        Check.badArgument("ifValue(0, 201)", z, () -> z.ifValue(0, 201));
        Check.badArgument("ifValue(0, -201)", z, () -> z.ifValue(0, -201));
        Check.badArgument("ifValue(1, 0) of a resistor", y, () -> y.ifValue(1, 0));
        Check.badArgument("ifValue(1, 5) of a resistor", y, () -> y.ifValue(1, 5));
        Check.equal("ifValue(1, 1) of a resistor", y.ifValue(1, 1), 0);
    }
}
