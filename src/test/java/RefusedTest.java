import java.util.function.Supplier;

/**
 * "A method that throws an exception changes nothing. If several conditions for an exception hold, the exception that is
 * listed first is thrown." Each refused call is made on an object, and what can be seen of it, and what it answers then,
 * is held against an object on which it was not made.
 */
public final class RefusedTest {
    private static final int MIN = Integer.MIN_VALUE;
    private static final int MAX = Integer.MAX_VALUE;
    private static final String ARGUMENT = "IllegalArgumentException";
    private static final String INDEX = "IndexOutOfBoundsException";
    private static final String STATE = "IllegalStateException";
    private static final String ELEMENT = "NoSuchElementException";
    private static final String UNSUPPORTED = "UnsupportedOperationException";
    private static final String ARITHMETIC = "ArithmeticException";

    private interface CallOn {
        Object answer(Bindtime x);
    }

    /** How an object came to be, and what was seen of one to which nothing more was done. */
    private static String situation;
    private static Supplier<Bindtime> maker;
    private static String due;

    public static void main(String[] args) {
        ofNew();
        ofProgram();
        ofFull();
        ofWaiting();
        ofDone();
        ofDoneWithoutBody();
        ofDoneAndOver();
        ofFailed();
        ofMakingAfterRuns();
        manyRefusedOnes();
        Check.end("RefusedTest");
    }

    private static void in(String name, Supplier<Bindtime> how) {
        situation = name;
        maker = how;
        due = Build.portrait(how.get());
    }

    private static void refused(String call, String exception, CallOn on) {
        Bindtime x = maker.get();
        Check.same(situation + ": " + call, Build.outcome(() -> on.answer(x)), exception);
        Check.same(situation + ": " + call + ", again", Build.outcome(() -> on.answer(x)), exception);
        Check.same(situation + ": " + call + " changed nothing", Build.portrait(x), due);
    }

    // What is refused in every situation

    private static void refusedArguments() {
        refused("no such kind", ARGUMENT, x -> x.addNode('!', 0, 0, 0));
        refused("no such kind, and no such part", ARGUMENT, x -> x.addNode('!', 48, -1, 99));
        refused("a number out of range", ARGUMENT, x -> x.addNode('n', 1000, 0, 0));
        refused("a number out of range, and no such part", ARGUMENT, x -> x.addNode('s', 4, 48, 0));
        refused("a cell out of range, and no such part", ARGUMENT, x -> x.addNode('w', -1, -1, 0));
        refused("a procedure out of range, and no such parts", ARGUMENT, x -> x.addNode('c', 5, 48, -1));
        refused("a number that is not told, and no such part", ARGUMENT, x -> x.addNode('+', 48, -1, 1));
        refused("a number that is not told, and no such part of 'o'", ARGUMENT, x -> x.addNode('o', 48, 1, 0));
        refused("no such part", INDEX, x -> x.addNode('o', 48, 0, 0));
        refused("no such part, the first of three", INDEX, x -> x.addNode('?', -1, 0, 0));
        refused("no such part, the last of three", INDEX, x -> x.addNode('?', 0, 0, 48));
        refused("no such procedure", INDEX, x -> x.setBody(5, -1));
        refused("no such node", INDEX, x -> x.setBody(0, 48));
        refused("no such node, -2", INDEX, x -> x.setBody(4, -2));
        refused("neither", INDEX, x -> x.setBody(-1, -2));
        refused("limit of calls, too small", ARGUMENT, x -> x.setAhead(-1));
        refused("limit of calls, too large", ARGUMENT, x -> x.setAhead(7));
        refused("limit of made ones, too small", ARGUMENT, x -> x.setMade(0));
        refused("limit of made ones, too large", ARGUMENT, x -> x.setMade(5));
        refused("early, no such procedure", INDEX, x -> x.isEarly(5, 0));
        refused("early, no such number", INDEX, x -> x.isEarly(0, 2));
        refused("early, neither", INDEX, x -> x.isEarly(-1, -1));
    }

    private static void refusedWithoutMaking() {
        refused("make", STATE, Bindtime::make);
        refused("makeAll", STATE, Bindtime::makeAll);
        refused("procedures", STATE, Bindtime::procedures);
        refused("original", STATE, x -> x.original(0));
        refused("original, and no such made procedure", STATE, x -> x.original(-1));
        refused("known", STATE, x -> x.known(0, 0));
        refused("known, and no such made procedure", STATE, x -> x.known(12, 0));
        refused("known, and no such number", STATE, x -> x.known(0, 2));
    }

    private static void refusedUnlessDone() {
        refused("sizeOf", STATE, x -> x.sizeOf(0));
        refused("sizeOf, and no such made procedure", STATE, x -> x.sizeOf(-1));
        refused("countOf", STATE, x -> x.countOf(0, 'n'));
        refused("countOf, and no such made procedure", STATE, x -> x.countOf(12, '!'));
        refused("run the made program", STATE, x -> x.run(true, 0, 0, 1));
        refused("run the made program, and no steps", STATE, x -> x.run(true, 0, 0, 0));
        refused("run the made program, and too many steps", STATE, x -> x.run(true, 0, 0, 2001));
        refused("isLike", STATE, x -> x.isLike(0));
        refused("gain", STATE, x -> x.gain(0));
        refused("meanSize", STATE, Bindtime::meanSize);
    }

    private static void refusedWithoutBody() {
        refused("begin", STATE, x -> x.begin(0));
        refused("run", STATE, x -> x.run(false, 0, 0, 1));
        refused("run, and no steps", STATE, x -> x.run(false, 0, 0, 0));
        refused("run, and too many steps", STATE, x -> x.run(false, 0, 0, 2001));
        refused("run the made program", STATE, x -> x.run(true, 0, 0, 1));
        refused("run the made program, and no steps", STATE, x -> x.run(true, 0, 0, MIN));
        refused("isLike", STATE, x -> x.isLike(0));
        refused("gain", STATE, x -> x.gain(0));
    }

    private static void refusedWithoutRun() {
        refused("result", STATE, Bindtime::result);
        refused("steps", STATE, Bindtime::steps);
        refused("cell", STATE, x -> x.cell(0));
        refused("cell, and no such cell", STATE, x -> x.cell(4));
        refused("outputs", STATE, Bindtime::outputs);
        refused("output", STATE, x -> x.output(0));
        refused("output, -1", STATE, x -> x.output(-1));
    }

    private static void refusedSteps(boolean isMade) {
        for (int steps : new int[] {0, -1, 2001, MIN, MAX}) {
            refused("steps " + steps, ARGUMENT, x -> x.run(isMade, 1, 2, steps));
        }
    }

    private static void refusedCells() {
        for (int cell : new int[] {-1, 4, MIN, MAX}) {
            refused("no cell " + cell, INDEX, x -> x.cell(cell));
        }
    }

    // The situations

    private static void ofNew() {
        in("new", Bindtime::new);
        refusedArguments();
        refusedWithoutMaking();
        refusedUnlessDone();
        refusedWithoutBody();
        refusedWithoutRun();
        refused("no node is there", INDEX, x -> x.addNode('o', 0, 0, 0));
        refused("no node is there for a body", INDEX, x -> x.setBody(0, 0));
    }

    private static void ofProgram() {
        in("a program", () -> Build.with(Build.POWER, "(i)"));
        refusedArguments();
        refusedWithoutMaking();
        refusedUnlessDone();
        refusedWithoutRun();
        refusedSteps(false);
    }

    private static Bindtime full() {
        Bindtime x = Build.with(Build.UP, "(o (i))");
        for (int node = x.addNode('n', 1, 0, 0); node < 47; node++) {
            x.addNode('n', node, 0, 0);
        }
        for (int i = 0; i < 8; i++) {
            x.addInput(i);
        }
        x.setAhead(6);
        x.setMade(1);
        return x;
    }

    private static void ofFull() {
        in("48 nodes and 8 inputs", RefusedTest::full);
        refusedArguments();
        refused("a 49th node", STATE, x -> x.addNode('n', 0, 0, 0));
        refused("a 49th node with a part", STATE, x -> x.addNode('o', 47, 0, 0));
        refused("a 49th node, and no such part", INDEX, x -> x.addNode('o', 48, 0, 0));
        refused("a 49th node, and a number out of range", ARGUMENT, x -> x.addNode('p', 2, 0, 0));
        refused("a 49th node, a number that is not told, and no such part", ARGUMENT, x -> x.addNode('d', -1, 0, 7));
        refused("a 49th node, and no such kind", ARGUMENT, x -> x.addNode('q', 0, 0, 0));
        refused("a ninth input", STATE, x -> x.addInput(1));
        refused("a ninth input, least", STATE, x -> x.addInput(MIN));
    }

    private static void ofWaiting() {
        in("one waits", () -> {
            Bindtime x = Build.with(Build.UP);
            x.begin(3);
            return x;
        });
        refusedArguments();
        refusedUnlessDone();
        refusedWithoutRun();
        refused("original", INDEX, x -> x.original(1));
        refused("known", INDEX, x -> x.known(1, 0));
        refused("known, no such number", INDEX, x -> x.known(0, 2));
        refused("known, late", ELEMENT, x -> x.known(0, 1));
        in("one is made, one waits, and there is no body", () -> {
            Bindtime x = Build.with(Build.UP);
            x.begin(3);
            x.make();
            x.setBody(0, -1);
            return x;
        });
        refusedUnlessDone();
        refusedWithoutBody();
    }

    private static void ofDone() {
        in("done", () -> {
            Bindtime x = Build.done(3, "(; (o (n 4)) (c 1 (p 1) (p 0)))", "(d (+ (p 0) (i)))");
            x.addInput(5);
            x.run(true, 0, 2, 100);
            return x;
        });
        refusedArguments();
        refused("make", STATE, Bindtime::make);
        refused("makeAll", STATE, Bindtime::makeAll);
        for (int made : new int[] {-1, 2, 12, MIN, MAX}) {
            refused("original " + made, INDEX, x -> x.original(made));
            refused("known " + made, INDEX, x -> x.known(made, 0));
            refused("known, and no such number " + made, INDEX, x -> x.known(made, made));
            refused("sizeOf " + made, INDEX, x -> x.sizeOf(made));
            refused("countOf " + made, INDEX, x -> x.countOf(made, 'n'));
            refused("countOf, and no kind " + made, INDEX, x -> x.countOf(made, '!'));
        }
        refused("known, no such number of a late one", INDEX, x -> x.known(1, -1));
        refused("known, late", ELEMENT, x -> x.known(1, 0));
        refusedSteps(true);
        refusedSteps(false);
        refusedCells();
        for (int index : new int[] {-1, 1, MIN, MAX}) {
            refused("no output " + index, ELEMENT, x -> x.output(index));
        }
    }

    private static void ofDoneWithoutBody() {
        in("done, and the body is gone", () -> {
            Bindtime x = Build.done(3, Build.POWER);
            x.run(true, 0, 2, 100);
            x.setBody(0, -1);
            return x;
        });
        refusedWithoutBody();
        refused("make", STATE, Bindtime::make);
        refusedCells();
        refused("no output", ELEMENT, x -> x.output(0));
    }

    private static void ofDoneAndOver() {
        in("done, and the made program is over", () -> Build.done(20, Build.POWER));
        refused("gain, over", ARITHMETIC, x -> x.gain(0));
        in("done, and both are over", () -> Build.done(0, "(c 0 (p 1) (p 1))"));
        refused("gain, both over", ARITHMETIC, x -> x.gain(0));
        in("done, and the original is over", () -> {
            Bindtime x = Build.done(0, "(i)");
            new Trees(x).body(0, "(c 0 (p 1) (p 1))");
            return x;
        });
        refused("gain, the original is over", ARITHMETIC, x -> x.gain(0));
        in("done, the made program is over, and there is no body", () -> {
            Bindtime x = Build.done(20, Build.POWER);
            x.setBody(0, -1);
            return x;
        });
        refused("gain, over and no body", STATE, x -> x.gain(0));
    }

    private static void ofFailed() {
        in("failed", Build::failed);
        refusedArguments();
        refusedUnlessDone();
        refusedWithoutRun();
        refused("make", UNSUPPORTED, Bindtime::make);
        refused("makeAll", UNSUPPORTED, Bindtime::makeAll);
        refused("original", INDEX, x -> x.original(12));
        refused("known", INDEX, x -> x.known(-1, 0));
        refused("known, late", ELEMENT, x -> x.known(0, 1));
        in("failed, and the body is gone", () -> {
            Bindtime x = Build.failed();
            x.setBody(0, -1);
            return x;
        });
        refusedWithoutBody();
        refused("make", UNSUPPORTED, Bindtime::make);
        refused("makeAll", UNSUPPORTED, Bindtime::makeAll);
    }

    private static void ofMakingAfterRuns() {
        in("a run that was thrown out of, and a making that waits", () -> {
            Bindtime x = Build.with("(; (o (p 1)) (d (w 3 (p 0))))");
            x.run(false, 6, 7, 50);
            x.begin(2);
            return x;
        });
        refusedArguments();
        refusedUnlessDone();
        refusedSteps(false);
        refusedCells();
        refused("no output", ELEMENT, x -> x.output(1));
        in("a run that is over", () -> {
            Bindtime x = Build.with("(; (o (p 1)) (d (w 3 (p 0))))");
            x.run(false, 6, 7, 2);
            return x;
        });
        refusedSteps(false);
        refusedCells();
        refused("no output", ELEMENT, x -> x.output(0));
    }

    /** Refused calls count neither as inputs, nodes or bodies, however many there are. */
    private static void manyRefusedOnes() {
        Bindtime x = full();
        for (int i = 0; i < 60; i++) {
            int number = i;
            Build.outcome(() -> x.addNode('n', number, 0, 0));
            Build.outcome(() -> x.addInput(number));
            Build.outcome(() -> x.setBody(0, 48 + number));
            Build.outcome(() -> x.setAhead(7 + number));
            Build.outcome(() -> x.setMade(-number));
            Build.outcome(() -> x.run(false, 1, 2, 2001 + number));
            Build.outcome(() -> x.run(true, 1, 2, 100));
            Build.outcome(x::make);
        }
        Check.same("many refused ones changed nothing", Build.portrait(x), Build.portrait(full()));
    }
}
