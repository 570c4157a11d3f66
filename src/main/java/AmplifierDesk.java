import java.util.Arrays;

/** A desk for textbook circuits with ideal operational amplifiers; ../shared/DOC.md says what it must do. */
public final class AmplifierDesk {
    public static final int NONE = -1;

    private static final int GROUND = 0;
    private static final int NODES = 7;
    private static final int MOST_PARTS = 12;
    private static final int MOST_AMPLIFIERS = 3;
    private static final int MOST_SIGNS = 60;
    /** The shortest part has 3 signs and a ";" behind it, so a full buffer holds at most 15 parts. */
    private static final int MOST_PARTS_IN_TEXT = 15;
    private static final int MOST_PAST_STATES = 8;
    private static final int IMAGES = 2;

    private static final int MOST_CONDUCTANCE = 4;
    private static final int MOST_VALUE = 200;
    private static final int LEAST_RAIL = 10;
    private static final int MOST_RAIL = 200;
    private static final int FIRST_RAIL = 150;

    private static final int RESISTOR = 0;
    private static final int SOURCE = 1;
    private static final int AMPLIFIER = 2;

    private static final int LINEAR = 0;
    private static final int HIGH = 1;
    private static final int LOW = 2;
    private static final int[] POWERS_OF_THREE = {1, 3, 9, 27};

    private static final int HOLDS = 0;
    private static final int NOT_DETERMINED = 1;
    private static final int BEYOND_RAIL = 2;
    private static final int NOT_DRIVEN_HIGH = 3;
    private static final int NOT_DRIVEN_LOW = 4;
    private static final int NO_NEGATIVE_FEEDBACK = 5;

    private static final int TRIP_OFFSET = 1000;
    private static final long FIRST_HASH = 2081;

    private final Bench now;
    private final Bench trial;
    private final TextReader input;
    private final History history;
    private final State[] images;
    private int keptImages;

    public AmplifierDesk() {
        now = new Bench();
        trial = new Bench();
        input = new TextReader();
        history = new History();
        images = new State[IMAGES];
        for (int i = 0; i < IMAGES; i++) {
            images[i] = new State();
        }
        now.solve();
    }

    // ---- changes

    public int begin() {
        int before = now.state.parts.size;
        history.record(now.state);
        now.state.empty();
        now.solve();
        now.settle();
        return before;
    }

    public int load() throws IllegalArgumentException, IllegalStateException {
        if (!input.isComplete() || !input.parts.haveNodesAsTold()) {
            throw new IllegalArgumentException("the buffer is not a complete text of parts that can be");
        }
        if (!now.state.parts.haveRoomFor(input.parts)) {
            throw new IllegalStateException("there is no room for these parts");
        }
        history.record(now.state);
        now.state.parts.addAll(input.parts);
        input.length = 0;
        now.solve();
        now.settle();
        return now.state.parts.size;
    }

    public int setValue(int part, int value)
            throws IndexOutOfBoundsException, IllegalStateException, IllegalArgumentException {
        requireSettable(part, value);
        int before = now.state.parts.third[part];
        history.record(now.state);
        now.state.parts.third[part] = value;
        now.solve();
        now.settle();
        return before;
    }

    public int setRail(int rail) throws IllegalArgumentException {
        if (rail < LEAST_RAIL || rail > MOST_RAIL) {
            throw new IllegalArgumentException("the rail is 10 to 200");
        }
        int before = now.state.rail;
        history.record(now.state);
        now.state.rail = rail;
        now.settle();
        return before;
    }

    public int drop(int part) throws IndexOutOfBoundsException {
        requirePart(part);
        history.record(now.state);
        now.state.remove(part);
        now.solve();
        now.settle();
        return now.state.parts.size;
    }

    public int sweep(int part, int target)
            throws IndexOutOfBoundsException, IllegalStateException, IllegalArgumentException {
        requireSource(part);
        if (!isSourceValue(target)) {
            throw new IllegalArgumentException("the target is -200 to 200");
        }
        history.record(now.state);
        int[] values = now.state.parts.third;
        int steps = Math.abs(target - values[part]);
        int step = target > values[part] ? 1 : -1;
        int switched = 0;
        for (int i = 0; i < steps; i++) {
            int before = now.state.present;
            values[part] += step;
            now.settle();
            if (now.state.present != before) {
                switched++;
            }
        }
        return switched;
    }

    // ---- history and images

    public int undo() throws IllegalStateException {
        if (history.size == 0) {
            throw new IllegalStateException("the history is empty");
        }
        now.takeOver(history.removeLatest());
        return history.size;
    }

    public int keep(int image) throws IndexOutOfBoundsException {
        requireImage(image);
        images[image].copyFrom(now.state);
        keptImages |= 1 << image;
        return now.state.parts.size;
    }

    public int back(int image) throws IndexOutOfBoundsException, IllegalStateException {
        requireImage(image);
        if (!contains(keptImages, image)) {
            throw new IllegalStateException("the image keeps nothing");
        }
        history.record(now.state);
        now.takeOver(images[image]);
        return now.state.parts.size;
    }

    // ---- input

    public int append(int code) throws IllegalArgumentException, IllegalStateException {
        if (code < 32 || code > 126) {
            throw new IllegalArgumentException("the code is 32 to 126");
        }
        if (input.length >= MOST_SIGNS) {
            throw new IllegalStateException("the buffer is full");
        }
        input.text[input.length] = (char) code;
        input.length++;
        return input.length;
    }

    public int clearInput() {
        int before = input.length;
        input.length = 0;
        return before;
    }

    public int firstError() {
        return input.read();
    }

    // ---- the present case

    public long voltage(int node, int what) throws IndexOutOfBoundsException, IllegalArgumentException {
        requireNode(node);
        requireFractionSide(what);
        if (!now.state.settled) {
            return 0;
        }
        return now.nodeVoltage(now.state.present, node, what);
    }

    public long current(int part, int what)
            throws IndexOutOfBoundsException, IllegalStateException, IllegalArgumentException {
        requirePart(part);
        Parts parts = now.state.parts;
        if (parts.kind[part] != RESISTOR) {
            throw new IllegalStateException("the part is no resistor");
        }
        requireFractionSide(what);
        if (!now.state.settled) {
            return 0;
        }
        now.choose(now.state.present);
        long difference = now.numerator(parts.first[part]) - now.numerator(parts.second[part]);
        return lowestTerms(parts.third[part] * difference, now.denominator(), what);
    }

    public int amplifier(int amplifier, int what) throws IndexOutOfBoundsException, IllegalArgumentException {
        if (amplifier < 0 || amplifier >= now.amplifiers) {
            throw new IndexOutOfBoundsException("there is no such amplifier");
        }
        switch (what) {
            case 0:
                return now.amplifierParts[amplifier];
            case 1:
                return stateIn(now.state.present, amplifier);
            case 2:
                return now.state.settled ? now.inputSign(amplifier) : 0;
            default:
                throw new IllegalArgumentException("what is 0 to 2");
        }
    }

    // ---- all cases

    public int why(int number) throws IndexOutOfBoundsException {
        requireCase(number);
        now.judge(number);
        return now.reason;
    }

    public int concerned(int number) throws IndexOutOfBoundsException {
        requireCase(number);
        now.judge(number);
        return now.culprit;
    }

    public long inCase(int number, int node, int what) throws IndexOutOfBoundsException, IllegalArgumentException {
        requireCase(number);
        requireNode(node);
        requireFractionSide(what);
        return now.nodeVoltage(number, node, what);
    }

    // ---- ahead; nothing changes

    public int trip(int part, boolean up) throws IndexOutOfBoundsException, IllegalStateException {
        requireSource(part);
        trial.takeOver(now.state);
        int[] values = trial.state.parts.third;
        int step = up ? 1 : -1;
        int steps = MOST_VALUE - step * values[part];
        for (int i = 0; i < steps; i++) {
            values[part] += step;
            trial.settle();
            if (trial.state.present != now.state.present) {
                return values[part] + TRIP_OFFSET;
            }
        }
        return NONE;
    }

    public int ifValue(int part, int value)
            throws IndexOutOfBoundsException, IllegalStateException, IllegalArgumentException {
        requireSettable(part, value);
        trial.state.copyFrom(now.state);
        trial.state.parts.third[part] = value;
        trial.solve();
        trial.settle();
        return trial.state.settled ? trial.state.present : NONE;
    }

    // ---- what there is

    public int part(int part, int what) throws IndexOutOfBoundsException, IllegalArgumentException {
        requirePart(part);
        switch (what) {
            case 0:
                return now.state.parts.kind[part];
            case 1:
                return now.state.parts.first[part];
            case 2:
                return now.state.parts.second[part];
            case 3:
                return now.state.parts.third[part];
            default:
                throw new IllegalArgumentException("what is 0 to 3");
        }
    }

    public int count(int what) throws IllegalArgumentException {
        switch (what) {
            case 0:
                return now.state.parts.size;
            case 1:
                return now.amplifiers;
            case 2:
                return now.state.rail;
            case 3:
                return now.state.present;
            case 4:
                return now.state.settled ? 1 : 0;
            case 5:
                return holdingCases();
            case 6:
                return determinedCases();
            case 7:
                return now.state.parts.usedNodes();
            case 8:
                return history.size;
            case 9:
                return keptImages;
            default:
                throw new IllegalArgumentException("what is 0 to 9");
        }
    }

    public double meanVoltage() {
        if (!now.state.settled) {
            return 0.0;
        }
        int used = now.state.parts.usedNodes();
        int nodes = Integer.bitCount(used);
        if (nodes == 0) {
            return 0.0;
        }
        double sum = 0.0;
        for (int node = 1; node < NODES; node++) {
            if (contains(used, node)) {
                sum += (double) voltage(node, 0) / (double) voltage(node, 1);
            }
        }
        return sum / nodes;
    }

    public long digest() {
        long hash = FIRST_HASH;
        for (int what = 0; what <= 9; what++) {
            hash = mixed(hash, count(what));
        }
        hash = mixedParts(hash);
        hash = mixedVoltages(hash);
        hash = mixedAmplifiers(hash);
        for (int number = 0; number < now.cases(); number++) {
            hash = mixed(hash, why(number));
            hash = mixed(hash, concerned(number));
        }
        hash = mixed(hash, bitsOf(meanVoltage()));
        hash = mixed(hash, input.length);
        for (int i = 0; i < input.length; i++) {
            hash = mixed(hash, input.text[i]);
        }
        return hash;
    }

    // ---- helpers of the face

    private long mixedParts(long start) {
        long hash = start;
        for (int p = 0; p < now.state.parts.size; p++) {
            for (int what = 0; what <= 3; what++) {
                hash = mixed(hash, part(p, what));
            }
        }
        return hash;
    }

    private long mixedVoltages(long start) {
        long hash = start;
        for (int node = 0; node < NODES; node++) {
            hash = mixed(hash, voltage(node, 0));
            hash = mixed(hash, voltage(node, 1));
        }
        return hash;
    }

    private long mixedAmplifiers(long start) {
        long hash = start;
        for (int a = 0; a < now.amplifiers; a++) {
            for (int what = 0; what <= 2; what++) {
                hash = mixed(hash, amplifier(a, what));
            }
        }
        return hash;
    }

    private int holdingCases() {
        int holding = 0;
        for (int number = 0; number < now.cases(); number++) {
            now.judge(number);
            if (now.reason == HOLDS) {
                holding++;
            }
        }
        return holding;
    }

    private int determinedCases() {
        int determined = 0;
        for (int number = 0; number < now.cases(); number++) {
            if (now.isDetermined(number)) {
                determined++;
            }
        }
        return determined;
    }

    private void requirePart(int part) {
        if (part < 0 || part >= now.state.parts.size) {
            throw new IndexOutOfBoundsException("there is no such part");
        }
    }

    private void requireSource(int part) {
        requirePart(part);
        if (now.state.parts.kind[part] != SOURCE) {
            throw new IllegalStateException("the part is no source");
        }
    }

    private void requireSettable(int part, int value) {
        requirePart(part);
        int kind = now.state.parts.kind[part];
        if (kind == AMPLIFIER) {
            throw new IllegalStateException("an amplifier has no value");
        }
        boolean inRange = kind == RESISTOR ? value >= 1 && value <= MOST_CONDUCTANCE : isSourceValue(value);
        if (!inRange) {
            throw new IllegalArgumentException("the value is out of range");
        }
    }

    private void requireImage(int image) {
        if (image < 0 || image >= IMAGES) {
            throw new IndexOutOfBoundsException("there is no such image");
        }
    }

    private void requireCase(int number) {
        if (number < 0 || number >= now.cases()) {
            throw new IndexOutOfBoundsException("there is no such case");
        }
    }

    private static void requireNode(int node) {
        if (node < 0 || node >= NODES) {
            throw new IndexOutOfBoundsException("there is no such node");
        }
    }

    private static void requireFractionSide(int what) {
        if (what != 0 && what != 1) {
            throw new IllegalArgumentException("what is 0 or 1");
        }
    }

    private static boolean isSourceValue(int value) {
        return value >= -MOST_VALUE && value <= MOST_VALUE;
    }

    private static boolean contains(int set, int member) {
        return (set >> member & 1) != 0;
    }

    private static int stateIn(int number, int amplifier) {
        return number / POWERS_OF_THREE[amplifier] % 3;
    }

    private static long mixed(long hash, long value) {
        return 31 * hash + value;
    }

    private static long lowestTerms(long numerator, long denominator, int what) {
        long divisor = greatestDivisor(Math.abs(numerator), denominator);
        if (divisor == 0) {
            return 0;
        }
        return what == 0 ? numerator / divisor : denominator / divisor;
    }

    private static long greatestDivisor(long a, long b) {
        long large = a;
        long small = b;
        // Euclid's rule needs fewer than 100 rounds for any two longs.
        for (int round = 0; round < 100 && small != 0; round++) {
            long rest = large % small;
            large = small;
            small = rest;
        }
        return large;
    }

    /** The bits of a double that is 0.0 or normal, by arithmetic, as the library's way is not allowed here. */
    private static long bitsOf(double number) {
        if (number == 0.0) {
            return 0L;
        }
        double size = number < 0.0 ? -number : number;
        long exponent = 1023;
        for (int i = 0; i < 1100 && size >= 2.0; i++) {
            size = size / 2.0;
            exponent++;
        }
        for (int i = 0; i < 1100 && size < 1.0; i++) {
            size = size * 2.0;
            exponent--;
        }
        long fraction = (long) ((size - 1.0) * (double) (1L << 52));
        long sign = number < 0.0 ? 1L << 63 : 0L;
        return sign | exponent << 52 | fraction;
    }

    /** A row of parts; of a source the second node is NONE, and "third" is a conductance, a value or an output. */
    private static final class Parts {
        final int[] kind;
        final int[] first;
        final int[] second;
        final int[] third;
        int size;

        Parts(int most) {
            kind = new int[most];
            first = new int[most];
            second = new int[most];
            third = new int[most];
        }

        void copyFrom(Parts other) {
            size = 0;
            addAll(other);
        }

        void addAll(Parts others) {
            for (int p = 0; p < others.size; p++) {
                add(others.kind[p], others.first[p], others.second[p], others.third[p]);
            }
        }

        void add(int newKind, int newFirst, int newSecond, int newThird) {
            if (size >= kind.length) {
                return;
            }
            kind[size] = newKind;
            first[size] = newFirst;
            second[size] = newSecond;
            third[size] = newThird;
            size++;
        }

        void removeAt(int part) {
            for (int p = part + 1; p < size; p++) {
                kind[p - 1] = kind[p];
                first[p - 1] = first[p];
                second[p - 1] = second[p];
                third[p - 1] = third[p];
            }
            size--;
        }

        int amplifiersBefore(int part) {
            int found = 0;
            for (int p = 0; p < part; p++) {
                if (kind[p] == AMPLIFIER) {
                    found++;
                }
            }
            return found;
        }

        /** The nodes that a part is at, as a bit mask without the ground. */
        int usedNodes() {
            int used = 0;
            for (int p = 0; p < size; p++) {
                used |= 1 << first[p];
                if (kind[p] != SOURCE) {
                    used |= 1 << second[p];
                }
                if (kind[p] == AMPLIFIER) {
                    used |= 1 << third[p];
                }
            }
            return used & ~(1 << GROUND);
        }

        /** The node whose voltage a source or an amplifier sets; NONE for a resistor. */
        int drivenNode(int part) {
            switch (kind[part]) {
                case SOURCE:
                    return first[part];
                case AMPLIFIER:
                    return third[part];
                default:
                    return NONE;
            }
        }

        int drivenNodes() {
            int driven = 0;
            for (int p = 0; p < size; p++) {
                if (kind[p] != RESISTOR) {
                    driven |= 1 << drivenNode(p);
                }
            }
            return driven;
        }

        boolean haveNodesAsTold() {
            for (int p = 0; p < size; p++) {
                if (!hasNodesAsTold(p)) {
                    return false;
                }
            }
            return true;
        }

        private boolean hasNodesAsTold(int part) {
            if (kind[part] == SOURCE) {
                return first[part] != GROUND;
            }
            if (first[part] == second[part]) {
                return false;
            }
            if (kind[part] == RESISTOR) {
                return true;
            }
            int output = third[part];
            return output != GROUND && output != first[part] && output != second[part];
        }

        boolean haveRoomFor(Parts others) {
            if (size + others.size > MOST_PARTS) {
                return false;
            }
            if (amplifiersBefore(size) + others.amplifiersBefore(others.size) > MOST_AMPLIFIERS) {
                return false;
            }
            int driven = drivenNodes();
            for (int p = 0; p < others.size; p++) {
                if (others.kind[p] != RESISTOR) {
                    int node = others.drivenNode(p);
                    if (contains(driven, node)) {
                        return false;
                    }
                    driven |= 1 << node;
                }
            }
            return true;
        }
    }

    /** What a change changes and the history and the images keep. */
    private static final class State {
        final Parts parts;
        int rail;
        int present;
        boolean settled;

        State() {
            parts = new Parts(MOST_PARTS);
            rail = FIRST_RAIL;
            settled = true;
        }

        void copyFrom(State other) {
            parts.copyFrom(other.parts);
            rail = other.rail;
            present = other.present;
            settled = other.settled;
        }

        void empty() {
            parts.size = 0;
            rail = FIRST_RAIL;
            present = 0;
        }

        void remove(int part) {
            if (parts.kind[part] == AMPLIFIER) {
                int weight = POWERS_OF_THREE[parts.amplifiersBefore(part)];
                present = present / (3 * weight) * weight + present % weight;
            }
            parts.removeAt(part);
        }
    }

    /** The latest states, in a ring. */
    private static final class History {
        private final State[] states;
        private int oldest;
        int size;

        History() {
            states = new State[MOST_PAST_STATES];
            for (int i = 0; i < MOST_PAST_STATES; i++) {
                states[i] = new State();
            }
        }

        void record(State state) {
            states[(oldest + size) % MOST_PAST_STATES].copyFrom(state);
            if (size < MOST_PAST_STATES) {
                size++;
            } else {
                oldest = (oldest + 1) % MOST_PAST_STATES;
            }
        }

        /** To be asked only when there is a state; it is overwritten by the next record. */
        State removeLatest() {
            size--;
            return states[(oldest + size) % MOST_PAST_STATES];
        }
    }

    /** The input buffer, and the parts that are read from it. */
    private static final class TextReader {
        final char[] text;
        final Parts parts;
        int length;
        /** Of the part that is being read; NONE ahead of its letter. */
        private int kind;
        /** The digits after the letter of a resistor or an amplifier. */
        private final int[] digits;
        private int taken;
        private int sourceNode;
        private boolean negative;
        private int value;

        TextReader() {
            text = new char[MOST_SIGNS];
            parts = new Parts(MOST_PARTS_IN_TEXT);
            digits = new int[3];
        }

        /** Answers the index of the first syntax error, or the length. */
        int read() {
            parts.size = 0;
            startPart(NONE);
            for (int i = 0; i < length; i++) {
                if (!accepts(text[i])) {
                    return i;
                }
            }
            return length;
        }

        boolean isComplete() {
            return read() == length && endsPart();
        }

        private void startPart(int newKind) {
            kind = newKind;
            taken = 0;
            sourceNode = NONE;
            negative = false;
            value = 0;
        }

        private boolean accepts(char sign) {
            if (kind == NONE) {
                return acceptsLetter(sign);
            }
            if (sign == ';') {
                boolean ended = endsPart();
                startPart(NONE);
                return ended;
            }
            return kind == SOURCE ? acceptsInSource(sign) : acceptsDigit(sign);
        }

        private boolean acceptsLetter(char sign) {
            int named = kindOfLetter(sign);
            startPart(named);
            return named != NONE;
        }

        private static int kindOfLetter(char sign) {
            if (sign == 'r') {
                return RESISTOR;
            }
            if (sign == 's') {
                return SOURCE;
            }
            return sign == 'o' ? AMPLIFIER : NONE;
        }

        private boolean acceptsDigit(char sign) {
            if (taken >= digits.length) {
                return false;
            }
            boolean conductance = kind == RESISTOR && taken == 2;
            boolean allowed = conductance ? sign >= '1' && sign <= '4' : isNode(sign);
            if (allowed) {
                digits[taken] = sign - '0';
                taken++;
            }
            return allowed;
        }

        private boolean acceptsInSource(char sign) {
            if (sourceNode == NONE) {
                if (!isNode(sign)) {
                    return false;
                }
                sourceNode = sign - '0';
                return true;
            }
            if (sign == '-') {
                boolean allowed = !negative && taken == 0;
                negative = true;
                return allowed;
            }
            return acceptsInValue(sign);
        }

        private boolean acceptsInValue(char sign) {
            boolean leadingZero = taken > 0 && value == 0;
            if (sign < '0' || sign > '9' || leadingZero) {
                return false;
            }
            value = 10 * value + (sign - '0');
            taken++;
            return value <= MOST_VALUE;
        }

        private static boolean isNode(char sign) {
            return sign >= '0' && sign < '0' + NODES;
        }

        /** Puts the part that is being read to the others, if it may end here. */
        private boolean endsPart() {
            if (kind == NONE) {
                return false;
            }
            if (kind == SOURCE) {
                if (taken == 0) {
                    return false;
                }
                parts.add(SOURCE, sourceNode, NONE, negative ? -value : value);
                return true;
            }
            if (taken < digits.length) {
                return false;
            }
            parts.add(kind, digits[0], digits[1], digits[2]);
            return true;
        }
    }

    /**
     * How the nodes answer to the voltages that are given. Which voltages these are depends only on the set of
     * saturated amplifiers (as a bit mask), so there are at most 8 systems of equations for all 27 cases.
     */
    private static final class Replies {
        /** The denominator of all answers with a set; 0 if the cases with it are not determined. */
        final long[] denominator;
        /** In the row of a set, at 7 * node + given node: the numerator that one unit at the given node makes. */
        final long[][] numerator;
        /** A row for each node: the coefficients of all voltages, then those of all given voltages. */
        private final long[][] rows;

        Replies() {
            denominator = new long[1 << MOST_AMPLIFIERS];
            numerator = new long[1 << MOST_AMPLIFIERS][NODES * NODES];
            rows = new long[NODES][2 * NODES];
        }

        void solve(Parts parts, int amplifiers) {
            for (int set = 0; set < 1 << amplifiers; set++) {
                writeRows(parts, set);
                long scale = eliminate();
                denominator[set] = Math.abs(scale);
                copyAnswers(numerator[set], scale < 0 ? -1 : 1);
            }
        }

        private void writeRows(Parts parts, int saturated) {
            int balanced = parts.usedNodes() & ~parts.drivenNodes();
            for (int node = 0; node < NODES; node++) {
                Arrays.fill(rows[node], 0);
                if (!contains(balanced, node)) {
                    giveVoltage(node);
                }
            }
            int amplifier = 0;
            for (int p = 0; p < parts.size; p++) {
                if (parts.kind[p] == RESISTOR) {
                    join(parts.first[p], parts.second[p], parts.third[p], balanced);
                    join(parts.second[p], parts.first[p], parts.third[p], balanced);
                } else if (parts.kind[p] == AMPLIFIER) {
                    if (!contains(saturated, amplifier)) {
                        equateInputs(parts.first[p], parts.second[p], parts.third[p]);
                    }
                    amplifier++;
                }
            }
        }

        /** The ground and unused nodes are given 0, which keeps the system square. */
        private void giveVoltage(int node) {
            rows[node][node] = 1;
            rows[node][NODES + node] = 1;
        }

        private void join(int node, int other, int conductance, int balanced) {
            if (contains(balanced, node)) {
                rows[node][node] += conductance;
                rows[node][other] -= conductance;
            }
        }

        private void equateInputs(int plus, int minus, int output) {
            Arrays.fill(rows[output], 0);
            rows[output][plus] = 1;
            rows[output][minus] = -1;
        }

        /**
         * Makes the left half a multiple of the unit matrix and answers the factor, 0 if that can't be. All
         * divisions are without a rest, as all entries are determinants of parts of the first rows (Bareiss).
         * Such a determinant is at most the product of its rows' sums of sizes; those of 6 nodes add up to at most
         * 4 * 48, so it is at most 32 to the power of 6, and a product of two is far from the end of a long.
         */
        private long eliminate() {
            long pivotBefore = 1;
            for (int column = 0; column < NODES; column++) {
                if (!bringPivot(column)) {
                    return 0;
                }
                clearColumn(column, pivotBefore);
                pivotBefore = rows[column][column];
            }
            return pivotBefore;
        }

        private boolean bringPivot(int column) {
            for (int i = column; i < NODES; i++) {
                if (rows[i][column] != 0) {
                    long[] row = rows[i];
                    rows[i] = rows[column];
                    rows[column] = row;
                    return true;
                }
            }
            return false;
        }

        private void clearColumn(int column, long pivotBefore) {
            if (pivotBefore == 0) {
                return;
            }
            long[] pivotRow = rows[column];
            long pivot = pivotRow[column];
            for (int i = 0; i < NODES; i++) {
                if (i != column) {
                    long[] row = rows[i];
                    long factor = row[column];
                    for (int j = 0; j < 2 * NODES; j++) {
                        row[j] = (pivot * row[j] - factor * pivotRow[j]) / pivotBefore;
                    }
                }
            }
        }

        private void copyAnswers(long[] answers, int sign) {
            for (int node = 0; node < NODES; node++) {
                for (int given = 0; given < NODES; given++) {
                    answers[NODES * node + given] = sign * rows[node][NODES + given];
                }
            }
        }
    }

    /** A state with all that follows from it; solve() is due whenever parts or conductances have changed. */
    private static final class Bench {
        final State state;
        final int[] amplifierParts;
        int amplifiers;
        private final Replies replies;
        /** The voltages that the sources and the saturated amplifiers of the chosen case give. */
        private final long[] given;
        private int saturated;
        /** What judge() found: a reason, and the amplifier that is concerned. */
        int reason;
        int culprit;

        Bench() {
            state = new State();
            amplifierParts = new int[MOST_AMPLIFIERS];
            replies = new Replies();
            given = new long[NODES];
        }

        void takeOver(State other) {
            state.copyFrom(other);
            solve();
        }

        void solve() {
            amplifiers = 0;
            for (int p = 0; p < state.parts.size; p++) {
                if (state.parts.kind[p] == AMPLIFIER && amplifiers < MOST_AMPLIFIERS) {
                    amplifierParts[amplifiers] = p;
                    amplifiers++;
                }
            }
            replies.solve(state.parts, amplifiers);
        }

        int cases() {
            return POWERS_OF_THREE[amplifiers];
        }

        void settle() {
            // No other case can have fewer changes than the present one, so it need not be compared.
            if (holds(state.present)) {
                state.settled = true;
                return;
            }
            int best = NONE;
            int fewest = MOST_AMPLIFIERS + 1;
            for (int number = 0; number < cases(); number++) {
                int changes = changesTo(number);
                if (changes < fewest && holds(number)) {
                    best = number;
                    fewest = changes;
                }
            }
            state.settled = best != NONE;
            if (state.settled) {
                state.present = best;
            }
        }

        private int changesTo(int number) {
            int changes = 0;
            for (int a = 0; a < amplifiers; a++) {
                if (stateIn(number, a) != stateIn(state.present, a)) {
                    changes++;
                }
            }
            return changes;
        }

        boolean isDetermined(int number) {
            return replies.denominator[saturatedIn(number)] != 0;
        }

        private int saturatedIn(int number) {
            int set = 0;
            for (int a = 0; a < amplifiers; a++) {
                if (stateIn(number, a) != LINEAR) {
                    set |= 1 << a;
                }
            }
            return set;
        }

        /** Makes numerator() and denominator() those of a case. */
        void choose(int number) {
            saturated = saturatedIn(number);
            Arrays.fill(given, 0);
            Parts parts = state.parts;
            for (int p = 0; p < parts.size; p++) {
                if (parts.kind[p] == SOURCE) {
                    given[parts.first[p]] = parts.third[p];
                }
            }
            for (int a = 0; a < amplifiers; a++) {
                int output = parts.third[amplifierParts[a]];
                int amplifierState = stateIn(number, a);
                if (amplifierState == HIGH) {
                    given[output] = state.rail;
                } else if (amplifierState == LOW) {
                    given[output] = -state.rail;
                }
            }
        }

        long denominator() {
            return replies.denominator[saturated];
        }

        long numerator(int node) {
            long[] answers = replies.numerator[saturated];
            long sum = 0;
            for (int i = 0; i < NODES; i++) {
                sum += answers[NODES * node + i] * given[i];
            }
            return sum;
        }

        long nodeVoltage(int number, int node, int what) {
            boolean has = node == GROUND || contains(state.parts.usedNodes(), node);
            if (!has || !isDetermined(number)) {
                return 0;
            }
            choose(number);
            return lowestTerms(numerator(node), denominator(), what);
        }

        int inputSign(int amplifier) {
            choose(state.present);
            return signOfInput(amplifierParts[amplifier]);
        }

        private int signOfInput(int part) {
            return Long.compare(numerator(state.parts.first[part]), numerator(state.parts.second[part]));
        }

        private boolean holds(int number) {
            judge(number);
            return reason == HOLDS;
        }

        void judge(int number) {
            culprit = NONE;
            if (!isDetermined(number)) {
                reason = NOT_DETERMINED;
                return;
            }
            choose(number);
            for (int a = 0; a < amplifiers; a++) {
                reason = faultOf(a, stateIn(number, a));
                if (reason != HOLDS) {
                    culprit = a;
                    return;
                }
            }
            reason = HOLDS;
        }

        private int faultOf(int amplifier, int amplifierState) {
            int part = amplifierParts[amplifier];
            if (amplifierState == HIGH) {
                return signOfInput(part) > 0 ? HOLDS : NOT_DRIVEN_HIGH;
            }
            if (amplifierState == LOW) {
                return signOfInput(part) < 0 ? HOLDS : NOT_DRIVEN_LOW;
            }
            long limit = state.rail * denominator();
            if (Math.abs(numerator(state.parts.third[part])) > limit) {
                return BEYOND_RAIL;
            }
            return hasNegativeFeedback(amplifier) ? HOLDS : NO_NEGATIVE_FEEDBACK;
        }

        /** A given output has the same equations as a saturated one, so that set's replies tell what one unit does. */
        private boolean hasNegativeFeedback(int amplifier) {
            int set = saturated | 1 << amplifier;
            Parts parts = state.parts;
            int part = amplifierParts[amplifier];
            int output = parts.third[part];
            long plus = replies.numerator[set][NODES * parts.first[part] + output];
            long minus = replies.numerator[set][NODES * parts.second[part] + output];
            return replies.denominator[set] != 0 && plus < minus;
        }
    }
}
