import java.util.ArrayList;
import java.util.List;
import java.util.regex.Matcher;
import java.util.regex.Pattern;

/** The document once more, as literally and as slowly as can be: fractions over the free nodes, each case anew. */
final class ReferenceDesk {
    private static final int NONE = -1;
    private static final String PART =
            "(?:r[0-6][0-6][1-4]|s[0-6]-?(?:0|[1-9][0-9]?|1[0-9][0-9]|200)|o[0-6][0-6][0-6])";
    private static final Pattern TEXT = Pattern.compile(PART + "(?:;" + PART + ")*");

    private record Part(int kind, int first, int second, int third) {
    }

    private record State(List<Part> parts, int rail, int present, boolean settled) {
    }

    private State now = new State(List.of(), 150, 0, true);
    private final List<State> history = new ArrayList<>();
    private final State[] images = new State[2];
    private String buffer = "";

    // ---- changes

    int begin() {
        int before = now.parts.size();
        change(settled(new State(List.of(), 150, 0, true)));
        return before;
    }

    int load() {
        if (!TEXT.matcher(buffer).matches()) {
            throw new IllegalArgumentException();
        }
        List<Part> added = new ArrayList<>();
        for (String text : buffer.split(";")) {
            added.add(parse(text));
        }
        for (Part part : added) {
            if (!canBe(part)) {
                throw new IllegalArgumentException();
            }
        }
        List<Part> all = new ArrayList<>(now.parts);
        all.addAll(added);
        if (all.size() > 12 || amplifiers(all).size() > 3) {
            throw new IllegalStateException();
        }
        for (int i = 0; i < all.size(); i++) {
            for (int j = 0; j < i; j++) {
                if (driven(all.get(i)) >= 0 && driven(all.get(i)) == driven(all.get(j))) {
                    throw new IllegalStateException();
                }
            }
        }
        buffer = "";
        change(settled(new State(all, now.rail, now.present, now.settled)));
        return all.size();
    }

    int setValue(int part, int value) {
        checkValue(part, value);
        int before = now.parts.get(part).third;
        change(settled(with(now, part, value)));
        return before;
    }

    int setRail(int rail) {
        if (rail < 10 || rail > 200) {
            throw new IllegalArgumentException();
        }
        int before = now.rail;
        change(settled(new State(now.parts, rail, now.present, now.settled)));
        return before;
    }

    int drop(int part) {
        checkPart(part);
        int number = 0;
        int weight = 1;
        for (int a = 0; a < amplifiers(now.parts).size(); a++) {
            if (amplifiers(now.parts).get(a) != part) {
                number += weight * stateOf(now.present, a);
                weight *= 3;
            }
        }
        List<Part> left = new ArrayList<>(now.parts);
        left.remove(part);
        change(settled(new State(left, now.rail, number, now.settled)));
        return left.size();
    }

    int sweep(int part, int target) {
        checkSource(part);
        if (target < -200 || target > 200) {
            throw new IllegalArgumentException();
        }
        State state = now;
        int switched = 0;
        while (state.parts.get(part).third != target) {
            int value = state.parts.get(part).third;
            State next = settled(with(state, part, value < target ? value + 1 : value - 1));
            if (next.present != state.present) {
                switched++;
            }
            state = next;
        }
        change(state);
        return switched;
    }

    // ---- history and images

    int undo() {
        if (history.isEmpty()) {
            throw new IllegalStateException();
        }
        now = history.remove(history.size() - 1);
        return history.size();
    }

    int keep(int image) {
        checkImage(image);
        images[image] = now;
        return now.parts.size();
    }

    int back(int image) {
        checkImage(image);
        if (images[image] == null) {
            throw new IllegalStateException();
        }
        change(images[image]);
        return now.parts.size();
    }

    // ---- input

    int append(int code) {
        if (code < 32 || code > 126) {
            throw new IllegalArgumentException();
        }
        if (buffer.length() == 60) {
            throw new IllegalStateException();
        }
        buffer += (char) code;
        return buffer.length();
    }

    int clearInput() {
        int before = buffer.length();
        buffer = "";
        return before;
    }

    int firstError() {
        for (int i = 1; i <= buffer.length(); i++) {
            Matcher matcher = TEXT.matcher(buffer.substring(0, i));
            if (!matcher.matches() && !matcher.hitEnd()) {
                return i - 1;
            }
        }
        return buffer.length();
    }

    // ---- the present case

    long voltage(int node, int what) {
        checkNode(node);
        checkSide(what);
        return now.settled ? inCase(now.present, node, what) : 0;
    }

    long current(int part, int what) {
        checkPart(part);
        Part resistor = now.parts.get(part);
        if (resistor.kind != 0) {
            throw new IllegalStateException();
        }
        checkSide(what);
        if (!now.settled) {
            return 0;
        }
        Fraction[] voltages = solve(now, now.present, NONE);
        Fraction difference = voltages[resistor.first].minus(voltages[resistor.second]);
        return Fraction.of(resistor.third).times(difference).side(what);
    }

    int amplifier(int amplifier, int what) {
        List<Integer> found = amplifiers(now.parts);
        if (amplifier < 0 || amplifier >= found.size()) {
            throw new IndexOutOfBoundsException();
        }
        if (what < 0 || what > 2) {
            throw new IllegalArgumentException();
        }
        if (what == 0) {
            return found.get(amplifier);
        }
        if (what == 1) {
            return stateOf(now.present, amplifier);
        }
        if (!now.settled) {
            return 0;
        }
        Part part = now.parts.get(found.get(amplifier));
        Fraction[] voltages = solve(now, now.present, NONE);
        return voltages[part.first].compareTo(voltages[part.second]);
    }

    // ---- all cases

    int why(int number) {
        checkCase(number);
        return verdict(now, number)[0];
    }

    int concerned(int number) {
        checkCase(number);
        return verdict(now, number)[1];
    }

    long inCase(int number, int node, int what) {
        checkCase(number);
        checkNode(node);
        checkSide(what);
        Fraction[] voltages = solve(now, number, NONE);
        return voltages == null || voltages[node] == null ? 0 : voltages[node].side(what);
    }

    // ---- ahead

    int trip(int part, boolean up) {
        checkSource(part);
        State state = now;
        for (int value = now.parts.get(part).third; value != (up ? 200 : -200);) {
            value += up ? 1 : -1;
            state = settled(with(state, part, value));
            if (state.present != now.present) {
                return value + 1000;
            }
        }
        return NONE;
    }

    int ifValue(int part, int value) {
        checkValue(part, value);
        State state = settled(with(now, part, value));
        return state.settled ? state.present : NONE;
    }

    // ---- what there is

    int part(int part, int what) {
        checkPart(part);
        Part found = now.parts.get(part);
        switch (what) {
            case 0: return found.kind;
            case 1: return found.first;
            case 2: return found.second;
            case 3: return found.third;
            default: throw new IllegalArgumentException();
        }
    }

    int count(int what) {
        int found = 0;
        switch (what) {
            case 0: return now.parts.size();
            case 1: return amplifiers(now.parts).size();
            case 2: return now.rail;
            case 3: return now.present;
            case 4: return now.settled ? 1 : 0;
            case 5:
                for (int number = 0; number < cases(now); number++) {
                    found += verdict(now, number)[0] == 0 ? 1 : 0;
                }
                return found;
            case 6:
                for (int number = 0; number < cases(now); number++) {
                    found += solve(now, number, NONE) != null ? 1 : 0;
                }
                return found;
            case 7:
                for (int node = 1; node <= 6; node++) {
                    found += isUsed(now.parts, node) ? 1 << node : 0;
                }
                return found;
            case 8: return history.size();
            case 9: return (images[0] != null ? 1 : 0) + (images[1] != null ? 2 : 0);
            default: throw new IllegalArgumentException();
        }
    }

    double meanVoltage() {
        double sum = 0.0;
        int nodes = 0;
        for (int node = 1; node <= 6 && now.settled; node++) {
            if (isUsed(now.parts, node)) {
                sum += (double) voltage(node, 0) / voltage(node, 1);
                nodes++;
            }
        }
        return nodes == 0 ? 0.0 : sum / nodes;
    }

    long digest() {
        List<Long> values = new ArrayList<>();
        for (int what = 0; what <= 9; what++) {
            values.add((long) count(what));
        }
        for (int part = 0; part < now.parts.size(); part++) {
            for (int what = 0; what <= 3; what++) {
                values.add((long) part(part, what));
            }
        }
        for (int node = 0; node <= 6; node++) {
            values.add(voltage(node, 0));
            values.add(voltage(node, 1));
        }
        for (int a = 0; a < amplifiers(now.parts).size(); a++) {
            for (int what = 0; what <= 2; what++) {
                values.add((long) amplifier(a, what));
            }
        }
        for (int number = 0; number < cases(now); number++) {
            values.add((long) why(number));
            values.add((long) concerned(number));
        }
        values.add(Double.doubleToLongBits(meanVoltage()));
        values.add((long) buffer.length());
        for (char sign : buffer.toCharArray()) {
            values.add((long) sign);
        }
        long hash = 2081;
        for (long value : values) {
            hash = 31 * hash + value;
        }
        return hash;
    }

    // ---- circuits

    private static Part parse(String text) {
        int first = text.charAt(1) - '0';
        if (text.charAt(0) == 's') {
            return new Part(1, first, NONE, Integer.parseInt(text.substring(2)));
        }
        int kind = text.charAt(0) == 'r' ? 0 : 2;
        return new Part(kind, first, text.charAt(2) - '0', text.charAt(3) - '0');
    }

    private static boolean canBe(Part part) {
        switch (part.kind) {
            case 0: return part.first != part.second;
            case 1: return part.first != 0;
            default: return part.first != part.second && part.third != 0
                    && part.third != part.first && part.third != part.second;
        }
    }

    private static int driven(Part part) {
        return part.kind == 1 ? part.first : part.kind == 2 ? part.third : NONE;
    }

    private static List<Integer> amplifiers(List<Part> parts) {
        List<Integer> found = new ArrayList<>();
        for (int p = 0; p < parts.size(); p++) {
            if (parts.get(p).kind == 2) {
                found.add(p);
            }
        }
        return found;
    }

    private static boolean isUsed(List<Part> parts, int node) {
        for (Part part : parts) {
            boolean third = part.kind == 2 && part.third == node;
            if (part.first == node || part.second == node || third) {
                return true;
            }
        }
        return false;
    }

    private static int stateOf(int number, int amplifier) {
        int rest = number;
        for (int a = 0; a < amplifier; a++) {
            rest /= 3;
        }
        return rest % 3;
    }

    private static int cases(State state) {
        int cases = 1;
        for (int a = 0; a < amplifiers(state.parts).size(); a++) {
            cases *= 3;
        }
        return cases;
    }

    private static State with(State state, int part, int value) {
        List<Part> parts = new ArrayList<>(state.parts);
        Part old = parts.get(part);
        parts.set(part, new Part(old.kind, old.first, old.second, value));
        return new State(parts, state.rail, state.present, state.settled);
    }

    private void change(State next) {
        history.add(now);
        if (history.size() > 8) {
            history.remove(0);
        }
        now = next;
    }

    private static State settled(State state) {
        int best = NONE;
        int fewest = 99;
        for (int number = 0; number < cases(state); number++) {
            int changes = 0;
            for (int a = 0; a < 3; a++) {
                changes += stateOf(number, a) != stateOf(state.present, a) ? 1 : 0;
            }
            if (changes < fewest && verdict(state, number)[0] == 0) {
                best = number;
                fewest = changes;
            }
        }
        return new State(state.parts, state.rail, best == NONE ? state.present : best, best != NONE);
    }

    private static int[] verdict(State state, int number) {
        Fraction[] voltages = solve(state, number, NONE);
        if (voltages == null) {
            return new int[] {1, NONE};
        }
        List<Integer> found = amplifiers(state.parts);
        for (int a = 0; a < found.size(); a++) {
            Part part = state.parts.get(found.get(a));
            Fraction output = voltages[part.third];
            int input = voltages[part.first].compareTo(voltages[part.second]);
            Fraction rail = Fraction.of(state.rail);
            int kind = stateOf(number, a);
            if (kind == 0 && (output.compareTo(rail) > 0 || output.compareTo(Fraction.of(-state.rail)) < 0)) {
                return new int[] {2, a};
            }
            if (kind == 1 && input <= 0) {
                return new int[] {3, a};
            }
            if (kind == 2 && input >= 0) {
                return new int[] {4, a};
            }
            if (kind == 0) {
                Fraction[] answer = solve(state, number, a);
                if (answer == null || answer[part.first].compareTo(answer[part.second]) >= 0) {
                    return new int[] {5, a};
                }
            }
        }
        return new int[] {0, NONE};
    }

    /** The voltages in a case, null if it is not determined; with a tested amplifier, those for its feedback. */
    private static Fraction[] solve(State state, int number, int tested) {
        int[] column = new int[7];
        int unknowns = 0;
        Fraction[] known = new Fraction[7];
        known[0] = Fraction.ZERO;
        for (int node = 1; node <= 6; node++) {
            column[node] = isUsed(state.parts, node) ? 0 : NONE;
        }
        column[0] = NONE;
        for (Part part : state.parts) {
            if (part.kind == 1) {
                column[part.first] = NONE;
                known[part.first] = tested == NONE ? Fraction.of(part.third) : Fraction.ZERO;
            }
        }
        for (int node = 1; node <= 6; node++) {
            if (column[node] != NONE) {
                column[node] = unknowns++;
            }
        }
        List<Fraction[]> equations = equations(state, number, tested, column, known, unknowns);
        Fraction[] answers = eliminate(equations, unknowns);
        if (answers == null) {
            return null;
        }
        for (int node = 1; node <= 6; node++) {
            if (column[node] != NONE) {
                known[node] = answers[column[node]];
            }
        }
        return known;
    }

    private static List<Fraction[]> equations(State state, int number, int tested, int[] column, Fraction[] known,
            int unknowns) {
        List<Fraction[]> equations = new ArrayList<>();
        boolean[] isOutput = new boolean[7];
        List<Integer> found = amplifiers(state.parts);
        for (int a = 0; a < found.size(); a++) {
            Part part = state.parts.get(found.get(a));
            isOutput[part.third] = true;
            Fraction[] equation = empty(unknowns);
            int kind = stateOf(number, a);
            if (a == tested) {
                term(equation, column, known, part.third, 1);
                equation[unknowns] = Fraction.ONE;
            } else if (kind == 0) {
                term(equation, column, known, part.first, 1);
                term(equation, column, known, part.second, -1);
            } else {
                int rail = tested == NONE ? state.rail : 0;
                term(equation, column, known, part.third, 1);
                equation[unknowns] = Fraction.of(kind == 1 ? rail : -rail);
            }
            equations.add(equation);
        }
        for (int node = 1; node <= 6; node++) {
            if (column[node] == NONE || isOutput[node]) {
                continue;
            }
            Fraction[] equation = empty(unknowns);
            for (Part part : state.parts) {
                if (part.kind == 0 && (part.first == node || part.second == node)) {
                    int other = part.first == node ? part.second : part.first;
                    term(equation, column, known, node, part.third);
                    term(equation, column, known, other, -part.third);
                }
            }
            equations.add(equation);
        }
        return equations;
    }

    private static Fraction[] empty(int unknowns) {
        Fraction[] equation = new Fraction[unknowns + 1];
        java.util.Arrays.fill(equation, Fraction.ZERO);
        return equation;
    }

    private static void term(Fraction[] equation, int[] column, Fraction[] known, int node, int factor) {
        Fraction amount = Fraction.of(factor);
        int last = equation.length - 1;
        if (column[node] == NONE) {
            equation[last] = equation[last].minus(amount.times(known[node]));
        } else {
            equation[column[node]] = equation[column[node]].plus(amount);
        }
    }

    /** The one solution; null if there is none, or more than one. */
    private static Fraction[] eliminate(List<Fraction[]> equations, int unknowns) {
        int rank = 0;
        for (int c = 0; c < unknowns; c++) {
            int found = NONE;
            for (int i = rank; i < equations.size(); i++) {
                if (!equations.get(i)[c].isZero()) {
                    found = i;
                }
            }
            if (found == NONE) {
                return null;
            }
            Fraction[] pivot = equations.remove(found);
            equations.add(rank, pivot);
            for (int i = 0; i < equations.size(); i++) {
                Fraction[] row = equations.get(i);
                if (i != rank && !row[c].isZero()) {
                    Fraction factor = row[c].over(pivot[c]);
                    for (int j = 0; j <= unknowns; j++) {
                        row[j] = row[j].minus(factor.times(pivot[j]));
                    }
                }
            }
            rank++;
        }
        for (int i = rank; i < equations.size(); i++) {
            if (!equations.get(i)[unknowns].isZero()) {
                return null;
            }
        }
        Fraction[] answers = new Fraction[unknowns];
        for (int c = 0; c < unknowns; c++) {
            answers[c] = equations.get(c)[unknowns].over(equations.get(c)[c]);
        }
        return answers;
    }

    // ---- checks of arguments

    private void checkPart(int part) {
        if (part < 0 || part >= now.parts.size()) {
            throw new IndexOutOfBoundsException();
        }
    }

    private void checkSource(int part) {
        checkPart(part);
        if (now.parts.get(part).kind != 1) {
            throw new IllegalStateException();
        }
    }

    private void checkValue(int part, int value) {
        checkPart(part);
        int kind = now.parts.get(part).kind;
        if (kind == 2) {
            throw new IllegalStateException();
        }
        int least = kind == 0 ? 1 : -200;
        int most = kind == 0 ? 4 : 200;
        if (value < least || value > most) {
            throw new IllegalArgumentException();
        }
    }

    private void checkImage(int image) {
        if (image < 0 || image > 1) {
            throw new IndexOutOfBoundsException();
        }
    }

    private void checkNode(int node) {
        if (node < 0 || node > 6) {
            throw new IndexOutOfBoundsException();
        }
    }

    private void checkSide(int what) {
        if (what < 0 || what > 1) {
            throw new IllegalArgumentException();
        }
    }

    private void checkCase(int number) {
        if (number < 0 || number >= cases(now)) {
            throw new IndexOutOfBoundsException();
        }
    }
}
