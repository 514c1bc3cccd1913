import java.util.NoSuchElementException;

/** A maker of programs from programs: runs them, makes them for a known early number, and compares both. */
public final class Bindtime {
    private static final String KINDS = "npxsrw+-*<=/?;ciodt";
    private static final String SUMS = "+-*<=";

    private static final int PROCEDURES = 5;
    private static final int MOST_NODES = 48;
    private static final int MOST_INPUTS = 8;
    private static final int MOST_AHEAD = 6;
    private static final int MOST_LIMIT = 4;
    private static final int MOST_STEPS = 2000;
    private static final int GREATEST = 999;
    private static final int CELLS = 4;
    private static final int SLOTS = 4;
    private static final int NONE = -1;

    private static final char ENDED = 'e';
    private static final char THROWN = 'd';
    private static final char OVER = 'l';

    private static final char NOT_BEGUN = '-';
    private static final char WAITING = 'w';
    private static final char DONE = 'd';
    private static final char FAILED = 'f';

    private final Program program = new Program(PROCEDURES, MOST_NODES);
    private final int[] inputs = new int[MOST_INPUTS];
    private int inputCount;
    private int aheadLimit = 4;
    private int madeLimit = 3;
    private final EarlySet earlySet = new EarlySet();
    private final Making making = new Making(program);
    private boolean bodyWasSet;
    private final Machine lastRun = new Machine(program);
    private boolean wasRun;
    private long stepSum;
    private final Machine originalRun = new Machine(program);
    private final Machine madeRun = new Machine(program);

    public Bindtime() {
    }

    // ---- programs

    public int addNode(char kind, int a, int b, int c)
            throws IllegalArgumentException, IndexOutOfBoundsException, IllegalStateException {
        if (KINDS.indexOf(kind) < 0 || !isNumberAllowed(kind, 0, a) || !isNumberAllowed(kind, 1, b)
                || !isNumberAllowed(kind, 2, c)) {
            throw new IllegalArgumentException();
        }
        if (isMissingPart(kind, 0, a) || isMissingPart(kind, 1, b) || isMissingPart(kind, 2, c)) {
            throw new IndexOutOfBoundsException();
        }
        if (program.code.size() >= MOST_NODES) {
            throw new IllegalStateException();
        }
        return program.code.add(kind, a, b, c);
    }

    public int setBody(int procedure, int node) throws IndexOutOfBoundsException {
        if (!isProcedure(procedure) || node < NONE || node >= program.code.size()) {
            throw new IndexOutOfBoundsException();
        }
        int before = program.bodyOf(procedure);
        program.define(procedure, node, SLOTS);
        bodyWasSet = true;
        return before;
    }

    public int addInput(int number) throws IllegalStateException {
        if (inputCount >= inputs.length) {
            throw new IllegalStateException();
        }
        inputs[inputCount] = number;
        inputCount++;
        return inputCount;
    }

    public int clearInputs() {
        int before = inputCount;
        inputCount = 0;
        return before;
    }

    public int setAhead(int calls) throws IllegalArgumentException {
        if (calls < 0 || calls > MOST_AHEAD) {
            throw new IllegalArgumentException();
        }
        int before = aheadLimit;
        aheadLimit = calls;
        return before;
    }

    public int setMade(int procedures) throws IllegalArgumentException {
        if (procedures < 1 || procedures > MOST_LIMIT) {
            throw new IllegalArgumentException();
        }
        int before = madeLimit;
        madeLimit = procedures;
        return before;
    }

    public boolean isEarly(int procedure, int number) throws IndexOutOfBoundsException {
        if (!isProcedure(procedure) || !isNumberOfTwo(number)) {
            throw new IndexOutOfBoundsException();
        }
        earlySet.reckon(program);
        return earlySet.has(procedure, number);
    }

    private static boolean isProcedure(int procedure) {
        return procedure >= 0 && procedure < PROCEDURES;
    }

    private static boolean isNumberOfTwo(int number) {
        return number == 0 || number == 1;
    }

    private static boolean isNumberAllowed(char kind, int place, int number) {
        if (isPart(kind, place)) {
            return true;
        }
        if (place > 0) {
            return number == 0;
        }
        switch (kind) {
            case 'n':
                return number >= -GREATEST && number <= GREATEST;
            case 'p':
                return isNumberOfTwo(number);
            case 'x':
            case 's':
                return number >= 0 && number < SLOTS;
            case 'r':
            case 'w':
                return number >= 0 && number < CELLS;
            case 'c':
                return isProcedure(number);
            default:
                return number == 0;
        }
    }

    private boolean isMissingPart(char kind, int place, int number) {
        return isPart(kind, place) && (number < 0 || number >= program.code.size());
    }

    private static boolean isPart(char kind, int place) {
        switch (place) {
            case 0:
                return "+-*<=/?;odt".indexOf(kind) >= 0;
            case 1:
                return "sw+-*<=/?;ct".indexOf(kind) >= 0;
            default:
                return "?c".indexOf(kind) >= 0;
        }
    }

    // ---- making

    public int begin(int early) throws IllegalStateException {
        if (program.bodyOf(0) == NONE) {
            throw new IllegalStateException();
        }
        making.start(early, aheadLimit, madeLimit);
        bodyWasSet = false;
        return making.waiting();
    }

    public int make() throws IllegalStateException, UnsupportedOperationException {
        refuseWithoutWork();
        return making.makeNext() ? making.waiting() : -1;
    }

    public int makeAll() throws IllegalStateException, UnsupportedOperationException {
        refuseWithoutWork();
        int count = 0;
        for (int turn = 0; turn < Found.MOST && making.phase() == WAITING; turn++) {
            if (making.makeNext()) {
                count++;
            }
        }
        return count;
    }

    public char state() {
        return making.phase();
    }

    public int procedures() throws IllegalStateException {
        refuseUnbegun();
        return making.found.size();
    }

    public int original(int made) throws IllegalStateException, IndexOutOfBoundsException {
        refuseUnbegun();
        refuseUnfound(made);
        return making.found.procedureOf(made);
    }

    public int known(int made, int number)
            throws IllegalStateException, IndexOutOfBoundsException, NoSuchElementException {
        refuseUnbegun();
        refuseUnfound(made);
        if (!isNumberOfTwo(number)) {
            throw new IndexOutOfBoundsException();
        }
        if (!making.found.isNumberKnown(made, number)) {
            throw new NoSuchElementException();
        }
        return making.found.numberOf(made, number);
    }

    public int sizeOf(int made) throws IllegalStateException, IndexOutOfBoundsException {
        refuseUndone();
        refuseUnfound(made);
        return making.nodesOf(made);
    }

    public int countOf(int made, char kind) throws IllegalStateException, IndexOutOfBoundsException {
        refuseUndone();
        refuseUnfound(made);
        return making.nodesOfKind(made, kind);
    }

    private void refuseWithoutWork() {
        if (making.phase() == NOT_BEGUN || making.phase() == DONE) {
            throw new IllegalStateException();
        }
        if (making.phase() == FAILED) {
            throw new UnsupportedOperationException();
        }
    }

    private void refuseUnbegun() {
        if (making.phase() == NOT_BEGUN) {
            throw new IllegalStateException();
        }
    }

    private void refuseUndone() {
        if (making.phase() != DONE) {
            throw new IllegalStateException();
        }
    }

    private void refuseUnfound(int made) {
        if (made < 0 || made >= making.found.size()) {
            throw new IndexOutOfBoundsException();
        }
    }

    // ---- runs

    public char run(boolean isMade, int early, int late, int steps)
            throws IllegalStateException, IllegalArgumentException {
        if (program.bodyOf(0) == NONE || isMade && making.phase() != DONE) {
            throw new IllegalStateException();
        }
        if (steps < 1 || steps > MOST_STEPS) {
            throw new IllegalArgumentException();
        }
        if (isMade) {
            lastRun.execute(making.product, late, 0, steps, inputs, inputCount);
        } else {
            lastRun.execute(program, early, late, steps, inputs, inputCount);
        }
        wasRun = true;
        stepSum += lastRun.stepCount();
        return lastRun.outcome();
    }

    public int result() throws IllegalStateException {
        refuseWithoutRun();
        return lastRun.number();
    }

    public int steps() throws IllegalStateException {
        refuseWithoutRun();
        return lastRun.stepCount();
    }

    public int cell(int cell) throws IllegalStateException, IndexOutOfBoundsException {
        refuseWithoutRun();
        if (cell < 0 || cell >= CELLS) {
            throw new IndexOutOfBoundsException();
        }
        return lastRun.cellAt(cell);
    }

    public int outputs() throws IllegalStateException {
        refuseWithoutRun();
        return lastRun.outCount();
    }

    public int output(int index) throws IllegalStateException, NoSuchElementException {
        refuseWithoutRun();
        if (index < 0 || index >= lastRun.outCount()) {
            throw new NoSuchElementException();
        }
        return lastRun.outAt(index);
    }

    public long allSteps() {
        return stepSum;
    }

    public boolean isLike(int late) throws IllegalStateException {
        refuseIncomparable();
        runBoth(late);
        return areAlike();
    }

    public float gain(int late) throws IllegalStateException, ArithmeticException {
        refuseIncomparable();
        runBoth(late);
        // A run that ended asked its body at least, so the test of the divisor is for the machine's sake alone.
        if (originalRun.outcome() == OVER || madeRun.outcome() == OVER || originalRun.stepCount() == 0) {
            throw new ArithmeticException();
        }
        return (float) madeRun.stepCount() / (float) originalRun.stepCount();
    }

    public double meanSize() throws IllegalStateException {
        refuseUndone();
        int count = making.found.size();
        // What is done has one made procedure at least; the test keeps a mean of none from being NaN.
        return count == 0 ? 0.0 : (double) making.allNodes() / (double) count;
    }

    public boolean isConsistent() {
        if (making.phase() == DONE && !bodyWasSet) {
            for (int late = -2; late <= 3; late++) {
                runBoth(late);
                if (!areAlike()) {
                    return false;
                }
            }
        }
        return !making.found.hasTwins();
    }

    private void refuseWithoutRun() {
        if (!wasRun) {
            throw new IllegalStateException();
        }
    }

    private void refuseIncomparable() {
        refuseUndone();
        if (program.bodyOf(0) == NONE) {
            throw new IllegalStateException();
        }
    }

    private void runBoth(int late) {
        originalRun.execute(program, making.earlyNumber(), late, MOST_STEPS, inputs, inputCount);
        madeRun.execute(making.product, late, 0, MOST_STEPS, inputs, inputCount);
    }

    private boolean areAlike() {
        return originalRun.outcome() == OVER || madeRun.outcome() == OVER || originalRun.isSameAs(madeRun);
    }

    private static int reckonSum(char kind, int first, int second) {
        switch (kind) {
            case '+':
                return first + second;
            case '-':
                return first - second;
            case '*':
                return first * second;
            case '<':
                return first < second ? 1 : 0;
            case '=':
                return first == second ? 1 : 0;
            default:
                return second == 0 ? 0 : first / second;
        }
    }

    private static int[] widened(int[] old, int need) {
        if (need <= old.length) {
            return old;
        }
        int[] wide = new int[Math.max(need, 2 * old.length)];
        System.arraycopy(old, 0, wide, 0, old.length);
        return wide;
    }

    /** Nodes by their numbers. Rows of numbers instead of objects, since makings over and over use them again. */
    private static final class Code {
        private char[] kinds;
        private int[] a;
        private int[] b;
        private int[] c;
        private int count;

        Code(int room) {
            kinds = new char[room];
            a = new int[room];
            b = new int[room];
            c = new int[room];
        }

        int size() {
            return count;
        }

        void clear() {
            count = 0;
        }

        /** Makes room for more nodes; who adds nodes sees to it before, so that adding is one plain call. */
        void reserve(int more) {
            if (count + more <= kinds.length) {
                return;
            }
            int room = 2 * (count + more);
            char[] wide = new char[room];
            System.arraycopy(kinds, 0, wide, 0, count);
            kinds = wide;
            a = widened(a, room);
            b = widened(b, room);
            c = widened(c, room);
        }

        int add(char kind, int first, int second, int third) {
            if (count >= kinds.length) {
                return NONE;
            }
            kinds[count] = kind;
            a[count] = first;
            b[count] = second;
            c[count] = third;
            count++;
            return count - 1;
        }

        char kindOf(int node) {
            return node >= 0 && node < count ? kinds[node] : 'n';
        }

        int numberAt(int node, int place) {
            if (node < 0 || node >= count) {
                return 0;
            }
            return place == 0 ? a[node] : place == 1 ? b[node] : c[node];
        }

        void setNumberAt(int node, int place, int number) {
            if (node < 0 || node >= count) {
                return;
            }
            if (place == 0) {
                a[node] = number;
            } else if (place == 1) {
                b[node] = number;
            } else {
                c[node] = number;
            }
        }
    }

    /** Procedures over nodes, as they are run: the original ones or the made ones. */
    private static final class Program {
        final Code code;
        private final int[] bodies;
        private final int[] slots;

        Program(int procedures, int nodes) {
            code = new Code(nodes);
            bodies = new int[procedures];
            slots = new int[procedures];
            for (int i = 0; i < procedures; i++) {
                bodies[i] = NONE;
            }
        }

        void define(int procedure, int node, int slotCount) {
            if (procedure >= 0 && procedure < bodies.length) {
                bodies[procedure] = node;
                slots[procedure] = slotCount;
            }
        }

        int bodyOf(int procedure) {
            return procedure >= 0 && procedure < bodies.length ? bodies[procedure] : NONE;
        }

        int slotsOf(int procedure) {
            return procedure >= 0 && procedure < slots.length ? slots[procedure] : 0;
        }

        int mostSlots() {
            int most = 0;
            for (int i = 0; i < slots.length; i++) {
                most = Math.max(most, slots[i]);
            }
            return most;
        }
    }

    /** Runs a program and keeps what is seen of the run. */
    private static final class Machine {
        private static final int MOST_DEPTH = 200;
        private static final int MOST_CALLS = 10;
        private static final int DIVISION_BY_ZERO = 900;

        private Program program;
        private int[] inputs = new int[0];
        private int inputCount;
        private int inputsRead;
        private int allowed;
        private final int[] firsts = new int[MOST_CALLS];
        private final int[] seconds = new int[MOST_CALLS];
        private int[] slots = new int[MOST_CALLS * SLOTS];
        private int slotsEach;
        private final int[] cells = new int[CELLS];
        private int[] out = new int[16];
        private int outCount;
        private int stepCount;
        private char outcome = ENDED;
        private int number;

        Machine(Program some) {
            program = some;
        }

        void execute(Program what, int first, int second, int steps, int[] given, int givenCount) {
            program = what;
            inputs = given;
            inputCount = Math.min(givenCount, given.length);
            inputsRead = 0;
            allowed = steps;
            outCount = 0;
            stepCount = 0;
            outcome = ENDED;
            number = 0;
            for (int i = 0; i < CELLS; i++) {
                cells[i] = 0;
            }
            slotsEach = what.mostSlots();
            slots = widened(slots, MOST_CALLS * slotsEach);
            if (enter(0, 0, first, second)) {
                int answer = ask(what.bodyOf(0), 0, 0);
                number = outcome == ENDED ? answer : number;
            }
        }

        char outcome() {
            return outcome;
        }

        int number() {
            return number;
        }

        int stepCount() {
            return stepCount;
        }

        int cellAt(int cell) {
            return cell >= 0 && cell < CELLS ? cells[cell] : 0;
        }

        int outCount() {
            return outCount;
        }

        int outAt(int index) {
            return index >= 0 && index < outCount && index < out.length ? out[index] : 0;
        }

        boolean isSameAs(Machine other) {
            if (outcome != other.outcome || number != other.number || outCount != other.outCount) {
                return false;
            }
            for (int i = 0; i < CELLS; i++) {
                if (cells[i] != other.cells[i]) {
                    return false;
                }
            }
            for (int i = 0; i < outCount; i++) {
                if (outAt(i) != other.outAt(i)) {
                    return false;
                }
            }
            return true;
        }

        /** Parts are asked in here and not in helpers, so that a level of nodes is one open call and no more. */
        private int ask(int node, int frame, int depth) {
            if (stepCount >= allowed || depth >= MOST_DEPTH) {
                return stop(OVER, 0);
            }
            stepCount++;
            char kind = program.code.kindOf(node);
            int a = program.code.numberAt(node, 0);
            int b = program.code.numberAt(node, 1);
            int c = program.code.numberAt(node, 2);
            int first;
            int second;
            switch (kind) {
                case '?':
                    first = ask(a, frame, depth + 1);
                    return outcome != ENDED ? 0 : ask(first != 0 ? b : c, frame, depth + 1);
                case ';':
                    ask(a, frame, depth + 1);
                    return outcome != ENDED ? 0 : ask(b, frame, depth + 1);
                case 't':
                    first = ask(a, frame, depth + 1);
                    return catches() ? ask(b, frame, depth + 1) : first;
                case 's':
                case 'w':
                    first = ask(b, frame, depth + 1);
                    return outcome != ENDED ? 0 : store(kind, a, frame, first);
                case 'o':
                    first = ask(a, frame, depth + 1);
                    return outcome != ENDED ? 0 : putOut(first);
                case 'd':
                    first = ask(a, frame, depth + 1);
                    return outcome != ENDED ? 0 : stop(THROWN, first);
                case 'c':
                    first = b < 0 ? 0 : ask(b, frame, depth + 1);
                    second = outcome != ENDED || c < 0 ? 0 : ask(c, frame, depth + 1);
                    return outcome != ENDED || !enter(a, frame + 1, first, second) ? 0
                            : ask(program.bodyOf(a), frame + 1, depth + 1);
                case 'n':
                case 'p':
                case 'x':
                case 'r':
                case 'i':
                    return look(kind, a, frame);
                default:
                    first = ask(a, frame, depth + 1);
                    second = outcome != ENDED ? 0 : ask(b, frame, depth + 1);
                    return outcome != ENDED ? 0 : combine(kind, first, second);
            }
        }

        private int stop(char how, int thrown) {
            outcome = how;
            number = thrown;
            return 0;
        }

        private boolean catches() {
            if (outcome != THROWN) {
                return false;
            }
            cells[CELLS - 1] = number;
            outcome = ENDED;
            number = 0;
            return true;
        }

        /** Answers whether there is a body to be asked in the new frame. */
        private boolean enter(int procedure, int frame, int first, int second) {
            if (program.bodyOf(procedure) == NONE) {
                return false;
            }
            if (frame < 0 || frame >= MOST_CALLS) {
                stop(OVER, 0);
                return false;
            }
            firsts[frame] = first;
            seconds[frame] = second;
            int from = frame * slotsEach;
            int to = Math.min(from + program.slotsOf(procedure), slots.length);
            for (int i = from; i < to; i++) {
                slots[i] = 0;
            }
            return true;
        }

        private int look(char kind, int a, int frame) {
            if (frame < 0 || frame >= MOST_CALLS) {
                return 0;
            }
            switch (kind) {
                case 'n':
                    return a;
                case 'p':
                    return a == 0 ? firsts[frame] : seconds[frame];
                case 'x':
                    return slotAt(frame * slotsEach + a);
                case 'r':
                    return cellAt(a);
                default:
                    return readInput();
            }
        }

        private int slotAt(int place) {
            return place >= 0 && place < slots.length ? slots[place] : 0;
        }

        private int readInput() {
            if (inputsRead >= inputCount) {
                return 0;
            }
            inputsRead++;
            return inputs[inputsRead - 1];
        }

        private int store(char kind, int a, int frame, int what) {
            if (kind == 'w') {
                if (a >= 0 && a < CELLS) {
                    cells[a] = what;
                }
                return what;
            }
            int place = frame * slotsEach + a;
            if (place >= 0 && place < slots.length) {
                slots[place] = what;
            }
            return what;
        }

        private int putOut(int what) {
            out = widened(out, outCount + 1);
            out[outCount] = what;
            outCount++;
            return what;
        }

        private int combine(char kind, int first, int second) {
            if (kind == '/' && second == 0) {
                return stop(THROWN, DIVISION_BY_ZERO);
            }
            return reckonSum(kind, first, second);
        }
    }

    /** The greatest set of early numbers: all are taken at first, and what a call forbids is taken away. */
    private static final class EarlySet {
        private final boolean[] early = new boolean[2 * PROCEDURES];
        private final boolean[] stands = new boolean[MOST_NODES];
        private final boolean[] earlyNode = new boolean[MOST_NODES];

        boolean has(int procedure, int number) {
            int place = 2 * procedure + number;
            return place >= 0 && place < early.length && early[place];
        }

        void reckon(Program program) {
            for (int i = 0; i < early.length; i++) {
                early[i] = i != 1;
            }
            boolean changed = true;
            for (int round = 0; round <= early.length && changed; round++) {
                changed = false;
                for (int procedure = 0; procedure < PROCEDURES; procedure++) {
                    changed = removeForbidden(program, procedure) || changed;
                }
            }
        }

        private boolean removeForbidden(Program program, int procedure) {
            int size = Math.min(program.code.size(), MOST_NODES);
            findStanding(program, procedure, size);
            findEarlyNodes(program, procedure, size);
            boolean changed = false;
            for (int node = 0; node < size; node++) {
                if (stands[node] && program.code.kindOf(node) == 'c') {
                    int called = program.code.numberAt(node, 0);
                    changed = removeUnlessEarly(called, 0, program.code.numberAt(node, 1)) || changed;
                    changed = removeUnlessEarly(called, 1, program.code.numberAt(node, 2)) || changed;
                }
            }
            return changed;
        }

        private boolean removeUnlessEarly(int called, int number, int part) {
            if (!has(called, number) || part >= 0 && part < earlyNode.length && earlyNode[part]) {
                return false;
            }
            early[2 * called + number] = false;
            return true;
        }

        /** Parts have lower numbers than what they are parts of, so that one way down the numbers is enough. */
        private void findStanding(Program program, int procedure, int size) {
            int body = program.bodyOf(procedure);
            for (int node = size - 1; node >= 0; node--) {
                stands[node] = node == body;
            }
            for (int node = size - 1; node >= 0; node--) {
                for (int place = 0; place < 3; place++) {
                    int part = program.code.numberAt(node, place);
                    if (stands[node] && isPart(program.code.kindOf(node), place) && part >= 0 && part < node) {
                        stands[part] = true;
                    }
                }
            }
        }

        private void findEarlyNodes(Program program, int procedure, int size) {
            for (int node = 0; node < size; node++) {
                char kind = program.code.kindOf(node);
                int a = program.code.numberAt(node, 0);
                int b = program.code.numberAt(node, 1);
                earlyNode[node] = kind == 'n' || kind == 'p' && has(procedure, a)
                        || SUMS.indexOf(kind) >= 0 && isEarlyBefore(a, node) && isEarlyBefore(b, node);
            }
        }

        private boolean isEarlyBefore(int part, int node) {
            return part >= 0 && part < node && node < earlyNode.length && earlyNode[part];
        }
    }

    /** What a node that is made gives: a known number, or a late node. */
    private static final class Value {
        private boolean isKnown;
        private int number;
        private int node;
        private boolean isIdle;

        void know(int what) {
            isKnown = true;
            number = what;
            node = NONE;
            isIdle = true;
        }

        void beLate(int lateNode, boolean idle) {
            isKnown = false;
            number = 0;
            node = lateNode;
            isIdle = idle;
        }

        void take(Value other) {
            isKnown = other.isKnown;
            number = other.number;
            node = other.node;
            isIdle = other.isIdle;
        }

        boolean isKnownLike(Value other) {
            return isKnown && other.isKnown && number == other.number;
        }
    }

    /** What is known of the cells, and behind them of the slots of each procedure that is carried out. */
    private static final class Knowledge {
        private static final int MOST = CELLS + SLOTS * (1 + MOST_AHEAD);

        private final boolean[] isKnown = new boolean[MOST];
        private final int[] numbers = new int[MOST];

        boolean has(int item) {
            return item >= 0 && item < MOST && isKnown[item];
        }

        int numberOf(int item) {
            return item >= 0 && item < MOST ? numbers[item] : 0;
        }

        void know(int item, int number) {
            if (item >= 0 && item < MOST) {
                isKnown[item] = true;
                numbers[item] = number;
            }
        }

        void forget(int item) {
            if (item >= 0 && item < MOST) {
                isKnown[item] = false;
            }
        }

        void forgetFirst(int items) {
            for (int item = 0; item < items; item++) {
                forget(item);
            }
        }

        boolean hasAnyOfFirst(int items) {
            for (int item = 0; item < items && item < MOST; item++) {
                if (isKnown[item]) {
                    return true;
                }
            }
            return false;
        }

        boolean agreesOn(int item, Knowledge other) {
            return has(item) && other.has(item) && numberOf(item) == other.numberOf(item);
        }

        void take(Knowledge other) {
            System.arraycopy(other.numbers, 0, numbers, 0, MOST);
            for (int item = 0; item < MOST; item++) {
                isKnown[item] = other.isKnown[item];
            }
        }
    }

    /** A procedure that is made, or one that is carried out ahead in it: its numbers, and where its slots begin. */
    private static final class Frame {
        private final Value first = new Value();
        private final Value second = new Value();
        private int firstSlot;
    }

    /** A node whose making is not done: how far it is, and what must be kept until its other parts are made. */
    private static final class Task {
        private int node;
        private int stage;
        private int rowStart;
        private int secondRowStart;
        private final Value first = new Value();
        private int kept;
        private boolean testIsIdle;
        private Knowledge knowledge = new Knowledge();
    }

    /** The made procedures of a making, in the order in which they were found. */
    private static final class Found {
        private static final int MOST = 12;

        private final int[] originals = new int[MOST];
        private final boolean[] isKnown = new boolean[2 * MOST];
        private final int[] numbers = new int[2 * MOST];
        private final Value early = new Value();
        private final Value late = new Value();
        private int count;
        private int limit;

        void start(int earlyNumber, int mostForOne) {
            count = 0;
            limit = mostForOne;
            early.know(earlyNumber);
            add(0, early, late);
        }

        int size() {
            return count;
        }

        int procedureOf(int made) {
            return made >= 0 && made < count ? originals[made] : 0;
        }

        boolean isNumberKnown(int made, int number) {
            int place = 2 * made + number;
            return place >= 0 && place < isKnown.length && isKnown[place];
        }

        int numberOf(int made, int number) {
            int place = 2 * made + number;
            return place >= 0 && place < numbers.length ? numbers[place] : 0;
        }

        /** Answers the made procedure for what is known, or NONE if it would be one too many. */
        int findOrAdd(int procedure, Value first, Value second) {
            int same = indexOf(procedure, first, second);
            if (same != NONE) {
                return same;
            }
            if (countFor(procedure) < limit) {
                return add(procedure, first, second);
            }
            int general = indexOf(procedure, late, late);
            return general != NONE ? general : add(procedure, late, late);
        }

        boolean hasTwins() {
            for (int made = 0; made < count; made++) {
                for (int before = 0; before < made; before++) {
                    if (procedureOf(made) == procedureOf(before) && agree(made, before, 0) && agree(made, before, 1)) {
                        return true;
                    }
                }
            }
            return false;
        }

        private boolean agree(int made, int other, int number) {
            return isNumberKnown(made, number) == isNumberKnown(other, number)
                    && numberOf(made, number) == numberOf(other, number);
        }

        private int indexOf(int procedure, Value first, Value second) {
            for (int made = 0; made < count; made++) {
                if (procedureOf(made) == procedure && isFor(2 * made, first) && isFor(2 * made + 1, second)) {
                    return made;
                }
            }
            return NONE;
        }

        private boolean isFor(int place, Value value) {
            return place >= 0 && place < isKnown.length && isKnown[place] == value.isKnown
                    && (!value.isKnown || numbers[place] == value.number);
        }

        private int countFor(int procedure) {
            int sum = 0;
            for (int made = 0; made < count; made++) {
                sum += procedureOf(made) == procedure ? 1 : 0;
            }
            return sum;
        }

        private int add(int procedure, Value first, Value second) {
            if (count >= MOST) {
                return NONE;
            }
            originals[count] = procedure;
            isKnown[2 * count] = first.isKnown;
            numbers[2 * count] = first.isKnown ? first.number : 0;
            isKnown[2 * count + 1] = second.isKnown;
            numbers[2 * count + 1] = second.isKnown ? second.number : 0;
            count++;
            return count - 1;
        }
    }

    /**
     * Makes one body. The nodes wait on a stack of tasks instead of in open calls: calls carried out ahead may stand
     * some 330 nodes deep. The rows ahead stand one behind the other in one array, the innermost one last, so that
     * joining them is nothing to do.
     */
    private static final class Maker {
        private static final int MOST_MADE = 600;
        private static final int MOST_TURNS = 1000000;
        /** More than one turn adds to the draft beside the row that it folds: two times all items carried out. */
        private static final int MOST_ADDED = 8 * Knowledge.MOST;
        private static final int MOST_TASKS = MOST_NODES * (1 + MOST_AHEAD);

        private final Program source;
        private final Found found;
        private final int[] bodies = new int[PROCEDURES];
        private int aheadLimit;
        private final Code draft = new Code(64);
        private int[] row = new int[32];
        private int rowEnd;
        private final Task[] tasks = new Task[MOST_TASKS];
        private int taskCount;
        private final Frame[] frames = new Frame[1 + MOST_AHEAD];
        private int frameCount;
        private Knowledge now = new Knowledge();
        private final Value value = new Value();
        private int slotCount;
        private int madeCount;
        private int openTries;
        private boolean hasFailed;

        Maker(Program original, Found table) {
            source = original;
            found = table;
            for (int i = 0; i < frames.length; i++) {
                frames[i] = new Frame();
            }
        }

        void start(int mostAhead) {
            aheadLimit = Math.min(mostAhead, MOST_AHEAD);
            for (int i = 0; i < PROCEDURES; i++) {
                bodies[i] = source.bodyOf(i);
            }
        }

        void open(int made) {
            clear();
            draft.reserve(MOST_ADDED);
            openOuterFrame(made);
            push(bodyAt(found.procedureOf(made)));
        }

        boolean isAtWork() {
            return taskCount > 0 && taskCount <= MOST_TASKS && !hasFailed;
        }

        /** Answers the node in the draft that is the body, or NONE if the making fails. */
        int close() {
            if (hasFailed) {
                return NONE;
            }
            reserve();
            if (now.hasAnyOfFirst(CELLS)) {
                settle(value, rowEnd);
                carryOutKnown(CELLS);
            }
            return rowAsNode(0, asNode(value));
        }

        private void clear() {
            draft.clear();
            rowEnd = 0;
            taskCount = 0;
            frameCount = 0;
            slotCount = 0;
            madeCount = 0;
            openTries = 0;
            hasFailed = false;
            now.forgetFirst(Knowledge.MOST);
        }

        private void openOuterFrame(int made) {
            Frame frame = frames[0];
            int lateCount = setOuterNumber(frame.first, made, 0, 0);
            setOuterNumber(frame.second, made, 1, lateCount);
            openFrame(frame);
        }

        private int setOuterNumber(Value target, int made, int number, int lateBefore) {
            if (found.isNumberKnown(made, number)) {
                target.know(found.numberOf(made, number));
                return lateBefore;
            }
            target.beLate(draft.add('p', lateBefore, 0, 0), true);
            return lateBefore + 1;
        }

        private void openFrame(Frame frame) {
            frame.firstSlot = slotCount;
            slotCount += SLOTS;
            frameCount++;
            for (int slot = 0; slot < SLOTS; slot++) {
                now.know(itemOfSlot(frameCount - 1, slot), 0);
            }
        }

        private int bodyAt(int procedure) {
            return procedure >= 0 && procedure < PROCEDURES ? bodies[procedure] : NONE;
        }

        private Frame innermost() {
            return frames[frameCount > 0 && frameCount <= frames.length ? frameCount - 1 : 0];
        }

        private static int itemOfSlot(int frame, int slot) {
            return CELLS + SLOTS * frame + slot;
        }

        private int itemCount() {
            return itemOfSlot(frameCount, 0);
        }

        // The stack of tasks

        private void push(int node) {
            if (madeCount >= MOST_MADE || taskCount >= MOST_TASKS) {
                hasFailed = true;
                return;
            }
            madeCount++;
            if (tasks[taskCount] == null) {
                tasks[taskCount] = new Task();
            }
            tasks[taskCount].node = node;
            tasks[taskCount].stage = 0;
            taskCount++;
        }

        private void pop() {
            taskCount--;
        }

        private void reserve() {
            draft.reserve(MOST_ADDED + 2 * rowEnd);
            row = widened(row, rowEnd + MOST_ADDED);
        }

        private int part(Task task, int place) {
            return source.code.numberAt(task.node, place);
        }

        void goOn() {
            reserve();
            Task task = tasks[taskCount - 1];
            char kind = source.code.kindOf(task.node);
            int stage = task.stage;
            task.stage++;
            switch (kind) {
                case 'n':
                case 'p':
                case 'x':
                case 'r':
                case 'i':
                    makeLeaf(kind, part(task, 0));
                    pop();
                    break;
                case 's':
                case 'w':
                    goOnWithOne(task, stage, kind, 1);
                    break;
                case 'o':
                case 'd':
                    goOnWithOne(task, stage, kind, 0);
                    break;
                case ';':
                    goOnWithSequence(task, stage);
                    break;
                case '?':
                    goOnWithChoice(task, stage);
                    break;
                case 't':
                    goOnWithTry(task, stage);
                    break;
                case 'c':
                    goOnWithCall(task, stage);
                    break;
                default:
                    goOnWithPair(task, stage, kind);
                    break;
            }
        }

        private void goOnWithOne(Task task, int stage, char kind, int place) {
            if (stage == 0) {
                push(part(task, place));
                return;
            }
            pop();
            int a = part(task, 0);
            switch (kind) {
                case 's':
                    assign(itemOfSlot(frameCount - 1, a), 's', innermost().firstSlot + a);
                    break;
                case 'w':
                    assign(a, 'w', a);
                    break;
                case 'o':
                    finishOut();
                    break;
                default:
                    finishThrow();
                    break;
            }
        }

        private void goOnWithPair(Task task, int stage, char kind) {
            if (stage == 0) {
                push(part(task, 0));
            } else if (stage == 1) {
                keepFirst(task);
                push(part(task, 1));
            } else {
                joinParts(task);
                finishPair(kind, task.first);
                pop();
            }
        }

        private void goOnWithSequence(Task task, int stage) {
            if (stage == 0) {
                push(part(task, 0));
            } else if (stage == 1) {
                putAheadUnlessIdle(value);
                push(part(task, 1));
            } else {
                pop();
            }
        }

        private void goOnWithCall(Task task, int stage) {
            if (stage == 0) {
                push(part(task, 1));
            } else if (stage == 1) {
                keepFirst(task);
                push(part(task, 2));
            } else if (stage == 2) {
                joinParts(task);
                int procedure = part(task, 0);
                if (bodyAt(procedure) == NONE) {
                    dropCall(task.first);
                    pop();
                } else if (task.first.isKnown && frameCount - 1 < aheadLimit) {
                    carryOutCall(task.first, procedure);
                } else {
                    makeSafe(task.first);
                    callMade(task.first, procedure);
                    pop();
                }
            } else {
                frameCount--;
                pop();
            }
        }

        private void goOnWithChoice(Task task, int stage) {
            if (stage == 0) {
                push(part(task, 0));
            } else if (stage == 1) {
                decideChoice(task);
            } else if (task.kept == NONE) {
                pop();
            } else if (stage == 2) {
                turnToOtherBranch(task);
                push(part(task, 2));
            } else {
                finishChoice(task);
                pop();
            }
        }

        private void goOnWithTry(Task task, int stage) {
            if (stage == 0) {
                carryOutKnown(itemCount());
                task.rowStart = rowEnd;
                openTries++;
                push(part(task, 0));
            } else if (stage == 1) {
                openTries--;
                task.kept = closeTryPart(task);
                push(part(task, 1));
            } else {
                int second = closeTryPart(task);
                value.beLate(draft.add('t', task.kept, second, 0), false);
                pop();
            }
        }

        // What each kind gives

        private void makeLeaf(char kind, int a) {
            switch (kind) {
                case 'n':
                    value.know(a);
                    break;
                case 'p':
                    value.take(a == 0 ? innermost().first : innermost().second);
                    break;
                case 'x':
                    lookUp(itemOfSlot(frameCount - 1, a), 'x', innermost().firstSlot + a);
                    break;
                case 'r':
                    lookUp(a, 'r', a);
                    break;
                default:
                    value.beLate(draft.add('i', 0, 0, 0), false);
                    break;
            }
        }

        private void lookUp(int item, char kind, int name) {
            if (now.has(item)) {
                value.know(now.numberOf(item));
            } else {
                value.beLate(draft.add(kind, name, 0, 0), true);
            }
        }

        private void assign(int item, char kind, int name) {
            if (value.isKnown) {
                now.know(item, value.number);
            } else {
                now.forget(item);
                value.beLate(draft.add(kind, name, value.node, 0), false);
            }
        }

        private void finishOut() {
            int node = draft.add('o', asNode(value), 0, 0);
            if (value.isKnown) {
                putAhead(node);
            } else {
                value.beLate(node, false);
            }
        }

        private void finishThrow() {
            if (now.hasAnyOfFirst(seenItems())) {
                settle(value, rowEnd);
                carryOutKnown(seenItems());
            }
            value.beLate(draft.add('d', asNode(value), 0, 0), false);
        }

        private void finishPair(char kind, Value first) {
            boolean mayThrow = kind == '/' && (!value.isKnown || value.number == 0);
            if (first.isKnown && value.isKnown && !mayThrow) {
                value.know(reckonSum(kind, first.number, value.number));
                return;
            }
            if (mayThrow) {
                makeSafe(first);
            }
            boolean idle = kind != '/' && first.isIdle && value.isIdle;
            value.beLate(draft.add(kind, asNode(first), asNode(value), 0), idle);
        }

        private void dropCall(Value first) {
            putAheadUnlessIdle(first);
            putAheadUnlessIdle(value);
            value.know(0);
        }

        private void carryOutCall(Value first, int procedure) {
            if (frameCount >= frames.length) {
                hasFailed = true;
                return;
            }
            settle(value, rowEnd);
            Frame frame = frames[frameCount];
            frame.first.take(first);
            frame.second.take(value);
            openFrame(frame);
            push(bodyAt(procedure));
        }

        private void callMade(Value first, int procedure) {
            int made = found.findOrAdd(procedure, first, value);
            if (made == NONE) {
                hasFailed = true;
                return;
            }
            int firstPart = found.isNumberKnown(made, 0) ? NONE : asNode(first);
            int secondPart = found.isNumberKnown(made, 1) ? NONE : asNode(value);
            int node = firstPart == NONE
                    ? draft.add('c', made, secondPart, NONE)
                    : draft.add('c', made, firstPart, secondPart);
            value.beLate(node, false);
            now.forgetFirst(CELLS);
        }

        private void decideChoice(Task task) {
            if (value.isKnown) {
                task.kept = NONE;
                push(part(task, value.number != 0 ? 1 : 2));
                return;
            }
            task.kept = value.node;
            task.testIsIdle = value.isIdle;
            task.rowStart = rowEnd;
            task.knowledge.take(now);
            push(part(task, 1));
        }

        /** Exchanges what is known behind the first branch for what was known ahead of it. */
        private void turnToOtherBranch(Task task) {
            task.first.take(value);
            task.secondRowStart = rowEnd;
            Knowledge behind = now;
            now = task.knowledge;
            task.knowledge = behind;
        }

        private void finishChoice(Task task) {
            boolean isSame = task.first.isKnownLike(value);
            int zero = draft.add('n', 0, 0, 0);
            carryOutUnlike(now, task.knowledge, value);
            boolean isEmpty = rowEnd == task.secondRowStart;
            int otherwise = rowAsNode(task.secondRowStart, isSame ? zero : asNode(value));
            carryOutUnlike(task.knowledge, now, task.first);
            isEmpty = isEmpty && rowEnd == task.rowStart;
            int then = rowAsNode(task.rowStart, isSame ? zero : asNode(task.first));
            forgetUnlike(task.knowledge);
            if (!isSame) {
                value.beLate(draft.add('?', task.kept, then, otherwise), false);
            } else if (!isEmpty) {
                putAhead(draft.add('?', task.kept, then, otherwise));
            } else if (!task.testIsIdle) {
                putAhead(task.kept);
            }
        }

        private void keepFirst(Task task) {
            task.first.take(value);
            task.rowStart = rowEnd;
        }

        private void joinParts(Task task) {
            if (rowEnd > task.rowStart) {
                settle(task.first, task.rowStart);
            }
        }

        private int closeTryPart(Task task) {
            if (now.hasAnyOfFirst(itemCount())) {
                settle(value, rowEnd);
                carryOutKnown(itemCount());
            }
            return rowAsNode(task.rowStart, asNode(value));
        }

        // Settling, carrying out, and rows

        private void settle(Value which, int place) {
            if (which.isKnown || draft.kindOf(which.node) == 'p' || place < 0 || rowEnd >= row.length) {
                return;
            }
            for (int i = rowEnd; i > place; i--) {
                row[i] = row[i - 1];
            }
            row[place] = draft.add('s', slotCount, which.node, 0);
            rowEnd++;
            which.beLate(draft.add('x', slotCount, 0, 0), true);
            slotCount++;
        }

        /** How many items, from the first on, are seen when a number is thrown: the slots only where it is caught. */
        private int seenItems() {
            return openTries > 0 ? CELLS + SLOTS * frameCount : CELLS;
        }

        private void makeSafe(Value first) {
            if (now.hasAnyOfFirst(seenItems())) {
                settle(first, rowEnd);
                settle(value, rowEnd);
                carryOutKnown(seenItems());
            }
        }

        private void carryOutKnown(int items) {
            for (int item = 0; item < items; item++) {
                if (now.has(item)) {
                    int number = draft.add('n', now.numberOf(item), 0, 0);
                    putAhead(draft.add(item < CELLS ? 'w' : 's', nameOf(item), number, 0));
                    now.forget(item);
                }
            }
        }

        /** Ends a branch; what is known of its items stays as it is, since the other branch is compared with it. */
        private void carryOutUnlike(Knowledge mine, Knowledge others, Value branchValue) {
            boolean isFirst = true;
            for (int item = 0; item < itemCount(); item++) {
                if (mine.has(item) && !mine.agreesOn(item, others)) {
                    if (isFirst) {
                        settle(branchValue, rowEnd);
                    }
                    isFirst = false;
                    int number = draft.add('n', mine.numberOf(item), 0, 0);
                    putAhead(draft.add(item < CELLS ? 'w' : 's', nameOf(item), number, 0));
                }
            }
        }

        private void forgetUnlike(Knowledge others) {
            for (int item = 0; item < itemCount(); item++) {
                if (!now.agreesOn(item, others)) {
                    now.forget(item);
                }
            }
        }

        private int nameOf(int item) {
            if (item < CELLS) {
                return item;
            }
            int frame = (item - CELLS) / SLOTS;
            return frame < frames.length ? frames[frame].firstSlot + (item - CELLS) % SLOTS : 0;
        }

        private int asNode(Value which) {
            return which.isKnown ? draft.add('n', which.number, 0, 0) : which.node;
        }

        private void putAheadUnlessIdle(Value which) {
            if (!which.isKnown && !which.isIdle) {
                putAhead(which.node);
            }
        }

        private void putAhead(int node) {
            if (rowEnd < row.length) {
                row[rowEnd] = node;
                rowEnd++;
            }
        }

        /** Takes the end of the row away, from a place on, and answers it as one node. */
        private int rowAsNode(int from, int last) {
            int node = last;
            for (int i = Math.min(rowEnd, row.length) - 1; i >= from && i >= 0; i--) {
                node = draft.add(';', row[i], node, 0);
            }
            rowEnd = from;
            return node;
        }
    }

    /** A making: how it stands, and the made program. */
    private static final class Making {
        private static final int MOST_NODES_DONE = 300;

        final Found found = new Found();
        final Program product = new Program(Found.MOST, MOST_NODES);
        private final Maker maker;
        private final int[] ends = new int[Found.MOST];
        private int[] slotNames = new int[SLOTS];
        private int slotsNamed;
        private int early;
        private char phase = NOT_BEGUN;
        private int doneCount;

        Making(Program original) {
            maker = new Maker(original, found);
        }

        void start(int earlyNumber, int aheadLimit, int madeLimit) {
            early = earlyNumber;
            found.start(earlyNumber, madeLimit);
            maker.start(aheadLimit);
            product.code.clear();
            for (int made = 0; made < Found.MOST; made++) {
                product.define(made, NONE, 0);
            }
            doneCount = 0;
            phase = WAITING;
        }

        char phase() {
            return phase;
        }

        int earlyNumber() {
            return early;
        }

        int waiting() {
            return found.size() - doneCount;
        }

        /** Answers false if the making fails by this. */
        boolean makeNext() {
            maker.open(doneCount);
            for (int turn = 0; turn < Maker.MOST_TURNS && maker.isAtWork(); turn++) {
                maker.goOn();
            }
            int root = maker.close();
            if (root == NONE || !keep(root)) {
                phase = FAILED;
                return false;
            }
            doneCount++;
            if (waiting() == 0) {
                phase = DONE;
            }
            return true;
        }

        int allNodes() {
            return product.code.size();
        }

        int nodesOf(int made) {
            return endOf(made) - endOf(made - 1);
        }

        int nodesOfKind(int made, char kind) {
            int sum = 0;
            for (int node = endOf(made - 1); node < endOf(made); node++) {
                sum += product.code.kindOf(node) == kind ? 1 : 0;
            }
            return sum;
        }

        private int endOf(int made) {
            return made >= 0 && made < doneCount && made < ends.length ? ends[made] : 0;
        }

        /** Copies a body out of the draft, which the next one takes; answers false if there are too many nodes. */
        private boolean keep(int root) {
            Code code = product.code;
            int start = code.size();
            forgetSlotNames();
            code.reserve(MOST_NODES_DONE + 3 - start);
            copy(root);
            for (int node = start; node < code.size() && code.size() <= MOST_NODES_DONE; node++) {
                for (int place = 0; place < 3; place++) {
                    int part = code.numberAt(node, place);
                    if (isPart(code.kindOf(node), place) && part != NONE) {
                        code.setNumberAt(node, place, copy(part));
                    }
                }
            }
            if (code.size() > MOST_NODES_DONE || doneCount >= ends.length) {
                return false;
            }
            product.define(doneCount, start, slotsNamed);
            ends[doneCount] = code.size();
            return true;
        }

        private int copy(int node) {
            char kind = maker.draft.kindOf(node);
            int a = maker.draft.numberAt(node, 0);
            if (kind == 's' || kind == 'x') {
                a = slotName(a);
            }
            return product.code.add(kind, a, maker.draft.numberAt(node, 1), maker.draft.numberAt(node, 2));
        }

        private void forgetSlotNames() {
            slotNames = widened(slotNames, maker.slotCount);
            for (int i = 0; i < maker.slotCount; i++) {
                slotNames[i] = NONE;
            }
            slotsNamed = 0;
        }

        /** Slots get new numbers without gaps, so that a run need not clear those which nothing names. */
        private int slotName(int slot) {
            if (slot < 0 || slot >= slotNames.length) {
                return 0;
            }
            if (slotNames[slot] == NONE) {
                slotNames[slot] = slotsNamed;
                slotsNamed++;
            }
            return slotNames[slot];
        }
    }
}
