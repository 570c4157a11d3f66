/** Promises 22 to 25: part, count, meanVoltage, digest. */
public final class WhatThereIsTest {
    public static void main(String[] args) {
        promise22Part();
        promise23Count();
        promise24MeanVoltage();
        promise25Digest();
        Check.end();
    }

    private static void promise22Part() {
        AmplifierDesk x = Check.desk("r163;s5-17;o413");
        int[][] due = {{0, 1, 6, 3}, {1, 5, AmplifierDesk.NONE, -17}, {2, 4, 1, 3}};
        for (int part = 0; part < due.length; part++) {
            for (int what = 0; what < 4; what++) {
                Check.equal("part(" + part + ", " + what + ")", x.part(part, what), due[part][what]);
            }
        }
        Check.badIndex("part(-1, 0)", x, () -> x.part(-1, 0));
        Check.badIndex("part(3, 0)", x, () -> x.part(3, 0));
        Check.badIndex("part(3, 4)", x, () -> x.part(3, 4));
        Check.badArgument("part(0, -1)", x, () -> x.part(0, -1));
        Check.badArgument("part(0, 4)", x, () -> x.part(0, 4));
    }

    private static void promise23Count() {
        AmplifierDesk x = Check.desk(Circuits.INVERTER_AND_SCHMITT);
        x.setRail(120);
        x.keep(1);
        counts(x, 7, 2, 120, 3, 1, 2, 9, 62, 2, 2);
        x.keep(0);
        x.drop(6);
        counts(x, 6, 1, 120, 0, 1, 1, 3, 62, 3, 3);
        AmplifierDesk y = Check.desk("s110;s25;o123");
        y.setValue(0, 5);
        counts(y, 3, 1, 150, 1, 0, 0, 2, 14, 2, 0);
        counts(Check.desk("r061"), 1, 0, 150, 0, 1, 1, 1, 64, 1, 0);
        counts(Check.desk("r561"), 1, 0, 150, 0, 0, 0, 0, 96, 1, 0);
        counts(Check.desk("o056"), 1, 1, 150, 0, 0, 0, 0, 96, 1, 0);
        Check.badArgument("count(-1)", x, () -> x.count(-1));
        Check.badArgument("count(10)", x, () -> x.count(10));
    }

    private static void counts(AmplifierDesk x, int... due) {
        for (int what = 0; what < due.length; what++) {
            Check.equal("count(" + what + ") of " + due[0] + " parts", x.count(what), due[what]);
        }
    }

    private static void promise24MeanVoltage() {
        AmplifierDesk x = Check.desk("s1100;r121;r202;r231;r303");
        Check.bits("mean of thirds", x.meanVoltage(), (100.0 + 80.0 / 3.0 + 20.0 / 3.0) / 3);
        x.setValue(0, -100);
        Check.bits("mean of negative thirds", x.meanVoltage(), (-100.0 - 80.0 / 3.0 - 20.0 / 3.0) / 3);
        x.setValue(0, 0);
        Check.bits("mean of zeros", x.meanVoltage(), 0.0);
        Check.bits("mean of two that are opposite", Check.desk("s17;s6-7").meanVoltage(), 0.0);
        Check.bits("an unused node does not count", Check.desk("s15;s56").meanVoltage(), 5.5);
        Check.bits("none", new AmplifierDesk().meanVoltage(), 0.0);
        Check.bits("not settled", Check.desk("s15;r231").meanVoltage(), 0.0);
        AmplifierDesk y = Check.desk("s11;r121;r202;r231;r303;r344;r402");
        double sum = 1.0;
        for (int node = 2; node <= 4; node++) {
            sum += (double) y.voltage(node, 0) / y.voltage(node, 1);
        }
        Check.bits("in ascending order", y.meanVoltage(), sum / 4);
    }

    private static void promise25Digest() {
        digest(new AmplifierDesk(), "");
        digest(Check.desk(Circuits.INVERTER), "");
        digest(Check.desk(Circuits.INVERTER_AND_SCHMITT), "");
        digest(Check.desk(Circuits.LATCH), "");
        digest(Check.desk("s120;s2-20;o103;o204;o105"), "");
        digest(Check.desk("s15;r231"), "");
        digest(Check.desk("s1-7;r121;r202;r303;r231"), "");
        for (int value = -200; value <= 200; value++) {
            digest(Check.desk("s1" + value + ";r121;r204"), "");
        }
        AmplifierDesk x = Check.desk("s11;r121;r204");
        Check.type(x, "r12~ ");
        digest(x, "r12~ ");
        x.keep(1);
        digest(x, "r12~ ");
        x.append('!');
        digest(x, "r12~ !");
        x.clearInput();
        digest(x, "");
    }

    /** Recomputes the hash from the other answers and the text that is in the buffer. */
    private static void digest(AmplifierDesk x, String buffer) {
        long due = 2081;
        for (int what = 0; what <= 9; what++) {
            due = 31 * due + x.count(what);
        }
        for (int part = 0; part < x.count(0); part++) {
            for (int what = 0; what <= 3; what++) {
                due = 31 * due + x.part(part, what);
            }
        }
        for (int node = 0; node <= 6; node++) {
            due = 31 * due + x.voltage(node, 0);
            due = 31 * due + x.voltage(node, 1);
        }
        int cases = 1;
        for (int amplifier = 0; amplifier < x.count(1); amplifier++) {
            cases *= 3;
            for (int what = 0; what <= 2; what++) {
                due = 31 * due + x.amplifier(amplifier, what);
            }
        }
        for (int number = 0; number < cases; number++) {
            due = 31 * due + x.why(number);
            due = 31 * due + x.concerned(number);
        }
        due = 31 * due + Double.doubleToLongBits(x.meanVoltage());
        due = 31 * due + buffer.length();
        for (int i = 0; i < buffer.length(); i++) {
            due = 31 * due + buffer.charAt(i);
        }
        Check.equal("digest with '" + buffer + "'", x.digest(), due);
    }
}
