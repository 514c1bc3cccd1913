import java.util.function.Consumer;

/** Objects that the tests begin with, and what can be seen of an object as one text. */
final class Build {
    static final String KINDS = "npxsrw+-*<=/?;ciodt";
    static final String POWER = "(? (p 0) (* (p 1) (c 0 (- (p 0) (n 1)) (p 1))) (n 1))";
    /** Calls itself with a growing first number as often as the second one tells. */
    static final String UP = "(? (p 1) (c 0 (+ (p 0) (n 1)) (- (p 1) (n 1))) (p 0))";

    private Build() {
    }

    /** An object with a body for each tree; an empty text is no body. */
    static Bindtime with(String... bodies) {
        Bindtime x = new Bindtime();
        Trees trees = new Trees(x);
        for (int i = 0; i < bodies.length; i++) {
            if (!bodies[i].isEmpty()) {
                trees.body(i, bodies[i]);
            }
        }
        return x;
    }

    static Bindtime done(int early, String... bodies) {
        Bindtime x = with(bodies);
        x.begin(early);
        x.makeAll();
        return x;
    }

    /** Waits for the first make, and fails by a 13th made procedure when several were made. */
    static Bindtime failing() {
        Bindtime x = with("(; (c 1 (n 1) (i)) (; (c 1 (n 2) (i)) (c 1 (n 3) (i))))", "(; (c 2 (p 0) (i)) (c 2 (i) (p 0)))",
                "(; (c 3 (p 0) (i)) (c 3 (i) (p 1)))", "(; (c 4 (p 0) (i)) (c 4 (i) (p 1)))", "(i)");
        x.setAhead(0);
        x.begin(1);
        return x;
    }

    static Bindtime failed() {
        Bindtime x = failing();
        x.makeAll();
        return x;
    }

    static Object outcome(Check.Call call) {
        try {
            return call.answer();
        } catch (RuntimeException e) {
            return e.getClass().getSimpleName();
        }
    }

    /** All that can be seen without calls that change the object. */
    static String seen(Bindtime x) {
        StringBuilder text = new StringBuilder();
        Consumer<Check.Call> put = call -> text.append(outcome(call)).append(' ');
        put.accept(x::state);
        put.accept(x::procedures);
        for (int i = 0; i < 12; i++) {
            int made = i;
            put.accept(() -> x.original(made));
            put.accept(() -> x.known(made, 0));
            put.accept(() -> x.known(made, 1));
            put.accept(() -> x.sizeOf(made));
            for (char kind : KINDS.toCharArray()) {
                put.accept(() -> x.countOf(made, kind));
            }
        }
        text.append("| ").append(lastRun(x)).append("| ");
        put.accept(x::allSteps);
        for (int i = 0; i < 10; i++) {
            int place = i;
            put.accept(() -> x.isEarly(place / 2, place % 2));
        }
        for (int i = -2; i < 4; i++) {
            int late = i;
            put.accept(() -> x.isLike(late));
            put.accept(() -> x.gain(late));
        }
        put.accept(x::meanSize);
        put.accept(x::isConsistent);
        return text.toString();
    }

    static String lastRun(Bindtime x) {
        StringBuilder text = new StringBuilder();
        Consumer<Check.Call> put = call -> text.append(outcome(call)).append(' ');
        put.accept(x::result);
        put.accept(x::steps);
        for (int i = 0; i < 4; i++) {
            int cell = i;
            put.accept(() -> x.cell(cell));
        }
        put.accept(x::outputs);
        for (int i = 0; i < 40; i++) {
            int index = i;
            Object out = outcome(() -> x.output(index));
            if (!(out instanceof Integer)) {
                break;
            }
            text.append(out).append(' ');
        }
        return text.toString();
    }

    /** All that can be seen, and then what calls answer that bring to light what cannot be read; x is used up by it. */
    static String portrait(Bindtime x) {
        StringBuilder text = new StringBuilder(seen(x));
        Consumer<Check.Call> put = call -> text.append(outcome(call)).append(' ');
        put.accept(x::makeAll);
        text.append(seen(x));
        for (int i = 0; i < 4; i++) {
            boolean isMade = i % 2 == 0;
            int late = i / 2 + 1;
            put.accept(() -> x.run(isMade, 3, late, 500));
            text.append(lastRun(x));
        }
        put.accept(() -> x.begin(2));
        put.accept(x::makeAll);
        text.append(seen(x));
        put.accept(x::clearInputs);
        put.accept(() -> x.setAhead(4));
        put.accept(() -> x.setMade(3));
        for (int i = 0; i < 5; i++) {
            int procedure = i;
            put.accept(() -> x.setBody(procedure, -1));
        }
        put.accept(() -> x.addNode('i', 0, 0, 0));
        return text.toString();
    }
}
