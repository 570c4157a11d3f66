/** Promises 1 to 7: a new object, begin, load, setValue, setRail, drop, sweep. */
public final class ChangesTest {
    public static void main(String[] args) {
        promise01NewObject();
        promise02Begin();
        promise03LoadAdds();
        promise03LoadRefusesTexts();
        promise03LoadRefusesPartsThatCannotBe();
        promise03LoadRefusesWhatHasNoRoom();
        promise04SetValue();
        promise04SetValueRefuses();
        promise05SetRail();
        promise06Drop();
        promise06DropKeepsTheOtherStates();
        promise06DropOfTheMiddleAmplifier();
        promise07Sweep();
        promise07SweepRefuses();
        settlingPrefersFewChangesThenLowNumbers();
        unsettledKeepsTheCase();
        Check.end();
    }

    private static void promise01NewObject() {
        AmplifierDesk x = new AmplifierDesk();
        int[] due = {0, 0, 150, 0, 1, 1, 1, 0, 0, 0};
        for (int what = 0; what < due.length; what++) {
            Check.equal("new: count " + what, x.count(what), due[what]);
        }
        Check.equal("new: ground", Check.voltage(x, 0), "0/1");
        Check.equal("new: node 6", Check.voltage(x, 6), "0/0");
        Check.equal("new: why", x.why(0), 0);
        Check.equal("new: concerned", x.concerned(0), AmplifierDesk.NONE);
        Check.equal("new: firstError", x.firstError(), 0);
        Check.equal("new: clearInput", x.clearInput(), 0);
        Check.bits("new: meanVoltage", x.meanVoltage(), 0.0);
        Check.badState("new: undo", x, () -> x.undo());
        Check.badState("new: back 0", x, () -> x.back(0));
        Check.badState("new: back 1", x, () -> x.back(1));
    }

    private static void promise02Begin() {
        AmplifierDesk x = Check.desk(Circuits.SCHMITT);
        x.setRail(20);
        x.keep(1);
        Check.type(x, "r12");
        Check.equal("begin: high before", x.count(3), 1);
        Check.equal("begin", x.begin(), 4);
        int[] due = {0, 0, 150, 0, 1, 1, 1, 0, 3, 2};
        for (int what = 0; what < due.length; what++) {
            Check.equal("begun: count " + what, x.count(what), due[what]);
        }
        Check.equal("begin leaves the buffer", x.clearInput(), 3);
        Check.equal("begin again", x.begin(), 0);
        Check.equal("begin of nothing is a change", x.count(8), 4);
        x.undo();
        x.undo();
        Check.equal("undo of begin: parts", x.count(0), 4);
        Check.equal("undo of begin: rail", x.count(2), 20);
        Check.equal("undo of begin: case", x.count(3), 1);
    }

    private static void promise03LoadAdds() {
        AmplifierDesk x = new AmplifierDesk();
        Check.type(x, "s1-20;r123");
        Check.equal("load", x.load(), 2);
        Check.equal("load clears the buffer", x.clearInput(), 0);
        Check.equal("load is a change", x.count(8), 1);
        Check.equal("floating node 2 follows", Check.voltage(x, 2), "-20/1");
        Check.type(x, "r201");
        Check.equal("load more", x.load(), 3);
        Check.equal("load settles", Check.voltage(x, 2), "-15/1");
        int[][] due = {{1, 1, -1, -20}, {0, 1, 2, 3}, {0, 2, 0, 1}};
        for (int part = 0; part < due.length; part++) {
            for (int what = 0; what < 4; what++) {
                Check.equal("loaded: part " + part + " " + what, x.part(part, what), due[part][what]);
            }
        }
        AmplifierDesk y = Check.desk("s1-0;s2200;s3-200;s40;s59");
        int[] values = {0, 200, -200, 0, 9};
        for (int part = 0; part < values.length; part++) {
            Check.equal("value " + part, y.part(part, 3), values[part]);
        }
        Check.equal("a full buffer of 12 parts",
                Check.desk("r011;r011;r011;r011;r011;r011;r011;r011;r011;r011;r011;r014").count(0), 12);
        AmplifierDesk z = Check.desk("s110;r121;r231;o023");
        Check.type(z, "r341;r451;o405");
        z.load();
        Check.equal("a new amplifier is linear, then it settles", z.count(3), 3);
        AmplifierDesk full = Check.desk("r011;r011;r011;r011;r011;r011;r011;r011;r011;r011;r011");
        Check.type(full, "s15");
        Check.equal("the twelfth part", full.load(), 12);
    }

    private static void promise03LoadRefusesTexts() {
        String[] texts = {"", ";", "r121;", "r12", "r1", "r", "s", "s1", "s1-", "o12", "r125", "r120", "r171", "r712",
            "s15;;r121", "s1201", "s1-201", "s100 ", "s101x", "s1--1", "s1007", "R121", "r121 ;r121", "o127", "s75"};
        for (String text : texts) {
            AmplifierDesk x = Check.desk("r011");
            Check.type(x, text);
            Check.badArgument("load of '" + text + "'", x, () -> x.load());
            Check.equal("the buffer stays after '" + text + "'", x.clearInput(), text.length());
        }
    }

    private static void promise03LoadRefusesPartsThatCannotBe() {
        String[] texts = {"r111", "r001", "s05", "s0-0", "o112", "o120", "o121", "o122", "o001", "r121;r331;r121",
            "s15;s16;r111", "o123;o456;o124;o125;o011", "r111;s15;s15",
            "s15;s16;s17;s18;s19;s15;s16;s17;s18;s19;s15;s16;s17;s05",
            "s15;s16;s17;s18;s19;s15;s16;s17;s18;s19;s15;s16;s17;s18;s05"};
        for (String text : texts) {
            AmplifierDesk x = Check.desk("r011");
            Check.type(x, text);
            Check.badArgument("load of '" + text + "'", x, () -> x.load());
            Check.equal("the buffer stays after '" + text + "'", x.clearInput(), text.length());
        }
        Check.equal("inputs at the ground can be", Check.desk("o013;o102").count(1), 2);
        Check.equal("a resistor from the ground can be", Check.desk("r014").count(0), 1);
    }

    private static void promise03LoadRefusesWhatHasNoRoom() {
        String twelve = "r011;r011;r011;r011;r011;r011;r011;r011;r011;r011;r011;r011";
        refuses(twelve, "r011");
        refuses("r011;r011;r011;r011;r011;r011;r011;r011;r011;r011;r011", "r011;r011");
        refuses("o123;o124;o125", "o126");
        refuses("o123;o124", "o125;o126");
        refuses("r011", "o123;o124;o125;o126");
        refuses("s15", "s16");
        refuses("s15", "s15");
        refuses("s15", "o231");
        refuses("o231", "s15");
        refuses("o231", "o241");
        refuses("r011", "s15;s16");
        refuses("r011", "s15;s26;s17");
        refuses("r011", "s15;o231");
        refuses("r011", "o231;s15");
        refuses("r011", "o231;o321");
        refuses("r011", "s10;s20;s30;s40;s50;s60;s11;s21;s31;s41;s51;s61;s12;s22;s32");
        AmplifierDesk x = Check.desk("s15;r121;s26");
        x.drop(0);
        Check.type(x, "o231");
        Check.equal("a node is free for an output when its source is dropped", x.load(), 3);
        Check.type(x, "s35;s40;s50;s60");
        Check.equal("sources may be at inputs and at other nodes", x.load(), 7);
    }

    private static void refuses(String first, String second) {
        AmplifierDesk x = Check.desk(first);
        Check.type(x, second);
        Check.badState("load of '" + second + "' to '" + first + "'", x, () -> x.load());
        Check.equal("the buffer stays", x.clearInput(), second.length());
    }

    private static void promise04SetValue() {
        AmplifierDesk x = Check.desk(Circuits.INVERTER);
        Check.equal("setValue of the source", x.setValue(0, -150), 10);
        Check.equal("at the rail it is linear", x.count(3), 0);
        Check.equal("the output", Check.voltage(x, 3), "150/1");
        Check.equal("setValue beyond", x.setValue(0, -151), -150);
        Check.equal("beyond the rail it is high", x.count(3), 1);
        Check.equal("setValue of a resistor", x.setValue(1, 4), 1);
        Check.equal("the new conductance", x.part(1, 3), 4);
        Check.equal("the input then", Check.voltage(x, 2), "-454/5");
        Check.equal("setValue of the feedback", x.setValue(2, 4), 1);
        Check.equal("setValue least", x.setValue(2, 1), 4);
        Check.equal("source least", x.setValue(0, -200), -151);
        Check.equal("source most", x.setValue(0, 200), -200);
        Check.equal("low", x.count(3), 2);
        Check.equal("eight changes", x.count(8), 8);
        x.setValue(0, 200);
        x.undo();
        x.undo();
        Check.equal("the same value is a change, too", x.part(0, 3), -200);
    }

    private static void promise04SetValueRefuses() {
        AmplifierDesk x = Check.desk(Circuits.INVERTER);
        Check.badIndex("setValue(-1, 1)", x, () -> x.setValue(-1, 1));
        Check.badIndex("setValue(4, 1)", x, () -> x.setValue(4, 1));
        Check.badIndex("setValue(12, 999)", x, () -> x.setValue(12, 999));
        Check.badIndex("setValue(most, 1)", x, () -> x.setValue(Integer.MAX_VALUE, 1));
        Check.badState("setValue(3, 1)", x, () -> x.setValue(3, 1));
        Check.badState("setValue(3, 999)", x, () -> x.setValue(3, 999));
        Check.badArgument("setValue(0, 201)", x, () -> x.setValue(0, 201));
        Check.badArgument("setValue(0, -201)", x, () -> x.setValue(0, -201));
        Check.badArgument("setValue(1, 0)", x, () -> x.setValue(1, 0));
        Check.badArgument("setValue(1, 5)", x, () -> x.setValue(1, 5));
        Check.badArgument("setValue(1, least)", x, () -> x.setValue(1, Integer.MIN_VALUE));
    }

    private static void promise05SetRail() {
        AmplifierDesk x = Check.desk(Circuits.INVERTER);
        Check.equal("setRail", x.setRail(10), 150);
        Check.equal("linear at the rail", x.count(3), 0);
        x.setValue(0, 11);
        Check.equal("low beyond it", x.count(3), 2);
        Check.equal("the output", Check.voltage(x, 3), "-10/1");
        Check.equal("setRail most", x.setRail(200), 10);
        Check.equal("it settles", x.count(3), 0);
        Check.equal("it is a change", x.count(8), 4);
        Check.badArgument("setRail(9)", x, () -> x.setRail(9));
        Check.badArgument("setRail(201)", x, () -> x.setRail(201));
        Check.badArgument("setRail(-150)", x, () -> x.setRail(-150));
        Check.equal("the rail", x.count(2), 200);
    }

    private static void promise06Drop() {
        AmplifierDesk x = Check.desk("s115;r121;r204;r232");
        Check.equal("drop", x.drop(1), 3);
        Check.equal("the later ones come down", x.part(1, 1) * 100 + x.part(1, 2) * 10 + x.part(1, 3), 204);
        Check.equal("the last one comes down", x.part(2, 1) * 100 + x.part(2, 2) * 10 + x.part(2, 3), 232);
        Check.equal("the first one stays", x.part(0, 3), 15);
        Check.equal("it settles", Check.voltage(x, 2), "0/1");
        Check.badIndex("drop(-1)", x, () -> x.drop(-1));
        Check.badIndex("drop(3)", x, () -> x.drop(3));
        Check.equal("it is a change", x.count(8), 2);
        Check.equal("drop of the last", x.drop(2), 2);
        Check.equal("drop of the source", x.drop(0), 1);
        Check.equal("drop of all", x.drop(0), 0);
        Check.badIndex("drop of nothing", x, () -> x.drop(0));
        AmplifierDesk y = Check.desk("s16;r122");
        Check.equal("a floating end", x.count(4), 1);
        y.drop(0);
        Check.equal("without its source it is not settled", y.count(4), 0);
    }

    private static void promise06DropKeepsTheOtherStates() {
        AmplifierDesk x = Check.desk("s120;s2-20;o103;o204;o105");
        Check.equal("high, low, high", x.count(3), 1 + 2 * 3 + 9);
        x.drop(3);
        Check.equal("without the low one", x.count(3), 1 + 3);
        Check.equal("the last one is now 1", x.amplifier(1, 0), 3);
        x.undo();
        x.drop(2);
        Check.equal("without the first one", x.count(3), 2 + 3);
        x.undo();
        x.drop(4);
        Check.equal("without the last one", x.count(3), 1 + 2 * 3);

        // A trigger keeps its state when the amplifier ahead of it is dropped.
        AmplifierDesk y = Check.desk("o106;s120;s2-100;r341;r241;o403");
        y.setValue(2, 0);
        y.setValue(2, -200);
        Check.equal("the trigger is low", y.amplifier(1, 1), 2);
        y.setValue(2, 0);
        Check.equal("and stays low", y.amplifier(1, 1), 2);
        y.drop(0);
        Check.equal("and stays low as number 0", y.count(3), 2);
    }

    private static void promise06DropOfTheMiddleAmplifier() {
        AmplifierDesk x = Check.desk("s1200;o143;o105;o034");
        Check.equal("the latch is high and low, and high between them", x.count(3), 1 + 3 + 2 * 9);
        x.setValue(0, 0);
        x.setValue(0, 1);
        Check.equal("it stays", x.count(3), 1 + 3 + 2 * 9);
        x.drop(2);
        Check.equal("the latch is as before", x.count(3), 1 + 2 * 3);
        AmplifierDesk y = Check.desk("s15;o143;o105;o034");
        y.setValue(0, 1);
        Check.equal("the other way round", y.count(3), 2 + 3 + 9);
        y.drop(2);
        Check.equal("the latch is as it was", y.count(3), 2 + 3);
        AmplifierDesk z = Check.desk("s1-200;o104;o105;r121;r231;o203");
        z.setValue(0, 1);
        Check.equal("high, high, and a trigger that stays low", z.count(3), 1 + 3 + 2 * 9);
        z.drop(2);
        Check.equal("the trigger is still low", z.count(3), 1 + 2 * 3);
    }

    private static void promise07Sweep() {
        AmplifierDesk x = Check.desk(Circuits.SCHMITT);
        Check.equal("it starts high", x.count(3), 1);
        Check.equal("sweep just not far enough", x.sweep(0, -149), 0);
        Check.equal("it is still high", x.count(3), 1);
        Check.equal("one more step", x.sweep(0, -150), 1);
        Check.equal("it is low", x.count(3), 2);
        Check.equal("back up, just not far enough", x.sweep(0, 149), 0);
        Check.equal("far enough", x.sweep(0, 200), 1);
        Check.equal("the value", x.part(0, 3), 200);
        Check.equal("sweep to where it is", x.sweep(0, 200), 0);
        Check.equal("each sweep is one change", x.count(8), 6);
        x.undo();
        x.undo();
        Check.equal("undo of a sweep", x.part(0, 3), 149);
        Check.equal("undo of a sweep: case", x.count(3), 2);

        AmplifierDesk y = Check.desk(Circuits.INVERTER);
        y.sweep(0, -200);
        Check.equal("from high through linear to low", y.sweep(0, 200), 2);
        Check.equal("low", y.count(3), 2);
        y.sweep(0, 0);
        Check.equal("linear, exactly", Check.voltage(y, 3), "0/1");
    }

    private static void promise07SweepRefuses() {
        AmplifierDesk x = Check.desk(Circuits.INVERTER);
        Check.badIndex("sweep(-1, 0)", x, () -> x.sweep(-1, 0));
        Check.badIndex("sweep(4, 999)", x, () -> x.sweep(4, 999));
        Check.badState("sweep(1, 1)", x, () -> x.sweep(1, 1));
        Check.badState("sweep(3, 999)", x, () -> x.sweep(3, 999));
        Check.badArgument("sweep(0, 201)", x, () -> x.sweep(0, 201));
        Check.badArgument("sweep(0, -201)", x, () -> x.sweep(0, -201));
        Check.badArgument("sweep(0, least)", x, () -> x.sweep(0, Integer.MIN_VALUE));
    }

    private static void settlingPrefersFewChangesThenLowNumbers() {
        AmplifierDesk x = Check.desk(Circuits.SCHMITT);
        Check.equal("high and low are both one change away", x.count(5), 2);
        Check.equal("the lower number is taken", x.count(3), 1);

        AmplifierDesk y = Check.desk(Circuits.LATCH);
        Check.equal("the latch holds as (low, high) and (high, low) alone", y.count(5), 2);
        Check.equal("both are two changes away", y.count(3), 2 + 3);
        y.setValue(0, 200);
        Check.equal("the source makes the first one high", y.count(3), 1 + 2 * 3);
        y.setValue(0, 0);
        Check.equal("and it stays high", y.count(3), 1 + 2 * 3);
        Check.type(y, "s250;o205");
        y.load();
        Check.equal("again two cases hold", y.count(5), 2);
        Check.equal("the higher number has fewer changes", y.count(3), 1 + 2 * 3 + 9);

        // The first amplifier is a trigger; from (high, high), where the second one must change, it stays high.
        AmplifierDesk z = Check.desk("r121;r231;o203;s120;s45;o405");
        z.setValue(3, 0);
        Check.equal("both are high", z.count(3), 1 + 3);
        z.setValue(4, -5);
        Check.equal("the trigger stays high", z.count(3), 1 + 2 * 3);
        z.setValue(3, -200);
        z.setValue(3, 0);
        Check.equal("the trigger is low", z.count(3), 2 + 2 * 3);
        z.setValue(4, 5);
        Check.equal("the trigger stays low, though a lower number holds", z.count(3), 2 + 3);
    }

    private static void unsettledKeepsTheCase() {
        AmplifierDesk x = Check.desk("s110;s25;o123");
        Check.equal("high", x.count(3), 1);
        x.setValue(0, 5);
        Check.equal("with equal inputs no case holds", x.count(4), 0);
        Check.equal("none holds", x.count(5), 0);
        Check.equal("the case stays as it was", x.count(3), 1);
        x.setValue(0, 4);
        Check.equal("settled again", x.count(4), 1);
        Check.equal("low", x.count(3), 2);
        Check.equal("a sweep through the gap changes once", x.sweep(0, 10), 1);
    }
}
