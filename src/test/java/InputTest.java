/** Promises 11 to 13: append, clearInput, firstError. */
public final class InputTest {
    public static void main(String[] args) {
        promise11Append();
        promise12ClearInput();
        promise13FirstError();
        promise13EverySignAtEveryPlace();
        Check.end();
    }

    private static void promise11Append() {
        AmplifierDesk x = new AmplifierDesk();
        Check.badArgument("append(31)", x, () -> x.append(31));
        Check.badArgument("append(127)", x, () -> x.append(127));
        Check.badArgument("append(-1)", x, () -> x.append(-1));
        Check.badArgument("append(65536 + 's')", x, () -> x.append(65536 + 's'));
        Check.equal("append(32)", x.append(32), 1);
        Check.equal("append(126)", x.append(126), 2);
        for (int length = 3; length <= 60; length++) {
            Check.equal("append", x.append('r'), length);
        }
        Check.badState("append to a full buffer", x, () -> x.append('r'));
        Check.badArgument("append of a wrong one to a full buffer", x, () -> x.append(31));
        Check.equal("append is no change", x.count(8), 0);
    }

    private static void promise12ClearInput() {
        AmplifierDesk x = new AmplifierDesk();
        Check.equal("clearInput of nothing", x.clearInput(), 0);
        Check.type(x, "s15;r12");
        Check.equal("clearInput", x.clearInput(), 7);
        Check.equal("clearInput again", x.clearInput(), 0);
        Check.equal("append then", x.append('s'), 1);
    }

    private static void promise13FirstError() {
        String[] texts = {"", "r", "r0", "r06", "r064", "r064;", "r064;s", "s0", "s6-", "s6-0", "s60", "s6200", "s6-200",
            "s61", "s619", "s6199", "o", "o0", "o06", "o066", "o066;o", "r111", "s05"};
        for (String text : texts) {
            first(text, text.length());
        }
        first(" ", 0);
        first("x", 0);
        first(";", 0);
        first("1", 0);
        first("R", 0);
        first("r7", 1);
        first("r-", 1);
        first("r;", 1);
        first("rr", 1);
        first("r07", 2);
        first("r0;", 2);
        first("r010", 3);
        first("r015", 3);
        first("r01;", 3);
        first("r0111", 4);
        first("r011r", 4);
        first("r011-", 4);
        first("r011;;", 5);
        first("s7", 1);
        first("s-", 1);
        first("s1;", 2);
        first("s1s", 2);
        first("s1--", 3);
        first("s1-;", 3);
        first("s100", 3);
        first("s101", 3);
        first("s10-", 3);
        first("s1-00", 4);
        first("s1-01", 4);
        first("s11-", 3);
        first("s1201", 4);
        first("s1-201", 5);
        first("s1210", 4);
        first("s1300", 4);
        first("s1999", 4);
        first("s11000", 5);
        first("s12000", 5);
        first("s120 ", 4);
        first("s15;s15;q;7", 8);
        first("o7", 1);
        first("o17", 2);
        first("o127", 3);
        first("o12;", 3);
        first("o1234", 4);
        first("o123s", 4);
    }

    private static void first(String text, int due) {
        AmplifierDesk x = new AmplifierDesk();
        Check.type(x, text);
        Check.equal("firstError of '" + text + "'", x.firstError(), due);
        Check.equal("firstError again of '" + text + "'", x.firstError(), due);
        Check.equal("firstError leaves the buffer", x.clearInput(), text.length());
    }

    /** After each text, exactly the signs told here may come next. */
    private static void promise13EverySignAtEveryPlace() {
        String nodes = "0123456";
        String digits = "0123456789";
        next("", "rso");
        next("r064;", "rso");
        next("r", nodes);
        next("r0", nodes);
        next("r06", "1234");
        next("r064", ";");
        next("s", nodes);
        next("s5", "-" + digits);
        next("s5-", digits);
        next("s5-0", ";");
        next("s50", ";");
        next("s51", ";" + digits);
        next("s519", ";" + digits);
        next("s520", ";0");
        next("s5-20", ";0");
        next("s521", ";");
        next("s5199", ";");
        next("s5200", ";");
        next("o", nodes);
        next("o1", nodes);
        next("o12", nodes);
        next("o123", ";");
    }

    private static void next(String text, String allowed) {
        for (int code = 32; code <= 126; code++) {
            AmplifierDesk x = new AmplifierDesk();
            Check.type(x, text);
            x.append(code);
            int due = text.length() + (allowed.indexOf(code) >= 0 ? 1 : 0);
            Check.equal("firstError of '" + text + (char) code + "'", x.firstError(), due);
        }
    }
}
