/** Promises 8 to 10: undo, keep, back. */
public final class HistoryTest {
    public static void main(String[] args) {
        promise08Undo();
        promise08UndoRestoresAll();
        promise08WhatIsNoChange();
        promise09Keep();
        promise10Back();
        Check.end();
    }

    private static void promise08Undo() {
        AmplifierDesk x = new AmplifierDesk();
        for (int rail = 11; rail <= 30; rail++) {
            x.setRail(rail);
            Check.equal("the history has at most 8 states", x.count(8), Math.min(8, rail - 10));
        }
        for (int left = 7; left >= 0; left--) {
            Check.equal("undo", x.undo(), left);
            Check.equal("the rail before", x.count(2), 22 + left);
        }
        Check.badState("undo of nothing", x, () -> x.undo());
        x.setRail(99);
        x.setRail(98);
        Check.equal("undo after undo", x.undo(), 1);
        x.setRail(97);
        x.undo();
        Check.equal("the rail", x.count(2), 99);
        x.undo();
        Check.equal("the first rail", x.count(2), 22);
    }

    private static void promise08UndoRestoresAll() {
        // The digest tells of the images, which are no part of the state; so they are filled ahead.
        AmplifierDesk x = Check.desk(Circuits.SCHMITT);
        x.keep(0);
        x.keep(1);
        x.undo();
        Check.equal("undo leaves the images", x.count(9), 3);
        long[] digests = new long[8];
        for (int step = 0; step < 8; step++) {
            digests[step] = x.digest();
            change(x, step);
        }
        for (int step = 7; step >= 0; step--) {
            Check.equal("undo", x.undo(), step);
            Check.equal("the digest before step " + step, x.digest(), digests[step]);
        }
    }

    private static void change(AmplifierDesk x, int step) {
        switch (step) {
            case 0:
                Check.type(x, Circuits.SCHMITT);
                x.load();
                break;
            case 1:
                x.setValue(0, -200);
                break;
            case 2:
                x.setRail(30);
                break;
            case 3:
                x.sweep(0, 200);
                break;
            case 4:
                x.drop(2);
                break;
            case 5:
                x.setValue(0, 0);
                break;
            case 6:
                x.back(0);
                break;
            default:
                x.begin();
                break;
        }
    }

    private static void promise08WhatIsNoChange() {
        AmplifierDesk x = Check.desk(Circuits.INVERTER);
        x.keep(0);
        Check.type(x, "r12");
        x.firstError();
        x.trip(0, true);
        x.ifValue(0, 200);
        x.inCase(1, 1, 0);
        x.clearInput();
        x.digest();
        Check.equal("only the load is a change", x.count(8), 1);
        Check.badState("back of nothing", x, () -> x.back(1));
        Check.badArgument("load of nothing", x, () -> x.load());
        Check.equal("what throws is no change", x.count(8), 1);
        Check.type(x, "r12");
        Check.equal("undo", x.undo(), 0);
        Check.equal("undo leaves the buffer", x.clearInput(), 3);
        Check.equal("undo is no change", x.count(8), 0);
    }

    private static void promise09Keep() {
        AmplifierDesk x = Check.desk(Circuits.INVERTER);
        Check.equal("keep", x.keep(1), 4);
        Check.equal("image 1", x.count(9), 2);
        Check.badIndex("keep(-1)", x, () -> x.keep(-1));
        Check.badIndex("keep(2)", x, () -> x.keep(2));
        x.drop(3);
        Check.equal("keep in place of what it kept", x.keep(1), 3);
        Check.equal("keep in the other", x.keep(0), 3);
        Check.equal("both images", x.count(9), 3);
        x.begin();
        Check.equal("back to the later one", x.back(1), 3);
        x.begin();
        Check.equal("keep of nothing", x.keep(0), 0);
        Check.equal("an image of the empty circuit is kept, too", x.count(9), 3);
    }

    private static void promise10Back() {
        AmplifierDesk x = Check.desk(Circuits.SCHMITT);
        x.sweep(0, -200);
        x.sweep(0, 0);
        x.setRail(140);
        x.keep(0);
        x.begin();
        x.setRail(30);
        Check.equal("back", x.back(0), 4);
        Check.equal("the case is the kept one, it does not settle from 0", x.count(3), 2);
        Check.equal("the rail", x.count(2), 140);
        Check.equal("back is a change", x.count(8), 7);
        x.undo();
        Check.equal("undo of back", x.count(2), 30);
        Check.equal("undo of back: parts", x.count(0), 0);
        x.back(0);
        x.setValue(0, 200);
        x.setRail(77);
        x.drop(0);
        Check.equal("the image stays", x.back(0), 4);
        Check.equal("its value", x.part(0, 3), 0);
        Check.equal("its rail", x.count(2), 140);
        Check.equal("its voltage", Check.voltage(x, 2), "-70/1");
        Check.badIndex("back(-1)", x, () -> x.back(-1));
        Check.badIndex("back(2)", x, () -> x.back(2));
        Check.badState("back(1)", x, () -> x.back(1));

        AmplifierDesk y = Check.desk("s110;s25;o123");
        y.setValue(0, 5);
        y.keep(1);
        y.begin();
        y.back(1);
        Check.equal("an unsettled state stays unsettled", y.count(4), 0);
        Check.equal("and in its case", y.count(3), 1);
        Check.equal("without voltages", Check.voltage(y, 1), "0/0");
        y.undo();
        Check.equal("begun is settled", y.count(4), 1);
    }
}
