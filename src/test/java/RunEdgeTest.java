/** The edges that the document names of programs that are run: each sentence of "Running" and the promises 18 to 24. */
public final class RunEdgeTest {
    private static final int MIN = Integer.MIN_VALUE;
    private static final int MAX = Integer.MAX_VALUE;

    public static void main(String[] args) {
        cells();
        slots();
        inputs();
        wrapAround();
        comparisons();
        division();
        decisions();
        callsWithoutBody();
        thrown();
        steps();
        mostSteps();
        depth();
        depthOfMade();
        depthOverAllProcedures();
        procedures();
        proceduresOfMade();
        outputs();
        numbersOfRuns();
        Check.end("RunEdgeTest");
    }

    private static void ends(String name, Bindtime x, int first, int second, int due) {
        Check.same(name + ", end", x.run(false, first, second, 2000), 'e');
        Check.same(name + ", result", x.result(), due);
    }

    private static void throwsOut(String name, Bindtime x, int first, int second, int due) {
        Check.same(name + ", end", x.run(false, first, second, 2000), 'd');
        Check.same(name + ", thrown", x.result(), due);
    }

    private static void over(String name, Bindtime x, boolean isMade, int late, int steps) {
        Check.same(name + ", end", x.run(isMade, 7, late, 2000), 'l');
        Check.same(name + ", result", x.result(), 0);
        Check.same(name + ", steps", x.steps(), steps);
    }

    // "A run has four cells, 0 at first"

    private static void cells() {
        for (int i = 0; i < 4; i++) {
            int cell = i;
            Bindtime x = Build.with("(; (o (r " + i + ")) (w " + i + " (p 1)))");
            for (int turn = 0; turn < 2; turn++) {
                x.run(false, 0, 40 + turn, 10);
                Check.same("cell " + i + " is 0 at first, also in the next run", x.output(0), 0);
                for (int other = 0; other < 4; other++) {
                    Check.same("cell " + other + " of " + cell, x.cell(other), other == cell ? 40 + turn : 0);
                }
            }
            x.begin(0);
            x.makeAll();
            x.run(true, 0, 60, 10);
            Check.same("cell " + i + " is 0 at first in a made program", x.output(0), 0);
            Check.same("cell " + i + " of a made program", x.cell(i), 60);
        }
        Bindtime x = Build.with("(; (w 0 (n 1)) (; (w 3 (n 4)) (; (d (n 5)) (w 0 (n 9)))))");
        x.run(false, 0, 0, 100);
        Check.same("first cell behind a thrown number", x.cell(0), 1);
        Check.same("last cell behind a thrown number", x.cell(3), 4);
        x.run(false, 0, 0, 5);
        Check.same("first cell behind a run that is over", x.cell(0), 1);
        Check.same("last cell behind a run that is over", x.cell(3), 0);
    }

    // "A procedure that is run has four slots of its own, 0 at first"

    private static void slots() {
        for (int i = 0; i < 4; i++) {
            String own = "(; (o (x " + i + ")) (s " + i + " (p 1)))";
            Bindtime x = Build.with("(; (s " + i + " (n 50)) (; (c 1 (n 0) (n 60)) (; (c 1 (n 0) (n 70)) (x " + i + "))))", own);
            ends("slot " + i + " of the caller", x, 0, 0, 50);
            Check.same("slot " + i + " is 0 at first", x.output(0), 0);
            Check.same("slot " + i + " is 0 at first, though one before had it", x.output(1), 0);
            x.setAhead(0);
            x.begin(0);
            x.makeAll();
            x.run(true, 0, 0, 100);
            Check.same("slot " + i + " of the caller, made", x.result(), 50);
            Check.same("slot " + i + " is 0 at first, made", x.output(1), 0);
        }
        Bindtime x = Build.with("(; (s 0 (p 1)) (; (? (p 1) (c 0 (n 0) (- (p 1) (n 1))) (n 0)) (o (x 0))))");
        x.run(false, 0, 9, 2000);
        for (int i = 0; i < 10; i++) {
            Check.same("ten procedures with slots of their own " + i, x.output(i), i);
        }
        ends("slots of one kind do not reach another",
                Build.with("(; (s 0 (n 1)) (; (s 1 (n 2)) (; (s 2 (n 3)) (; (s 3 (n 4)) "
                        + "(+ (x 0) (* (n 10) (+ (x 1) (* (n 10) (+ (x 2) (* (n 10) (x 3)))))))))))"), 0, 0, 4321);
    }

    // "inputs, which are read one after the other, 0 when there are no more"

    private static void inputs() {
        Bindtime x = Build.with("(? (p 1) (; (o (i)) (c 0 (p 0) (- (p 1) (n 1)))) (o (i)))");
        ends("no inputs at all", x, 0, 0, 0);
        for (int i = 1; i <= 8; i++) {
            x.addInput(i);
        }
        ends("the eighth input", x, 0, 7, 8);
        ends("no ninth input", x, 0, 8, 0);
        for (int i = 0; i < 9; i++) {
            Check.same("one after the other, over all procedures " + i, x.output(i), i < 8 ? i + 1 : 0);
        }
        ends("each run reads from the first one on", x, 0, 0, 1);
        Bindtime y = Build.with("(; (t (; (o (i)) (d (i))) (n 0)) (o (i)))");
        y.addInput(MIN);
        y.addInput(MAX);
        ends("no more behind a thrown number", y, 0, 0, 0);
        y.addInput(-1);
        ends("what was read stays read", y, 0, 0, -1);
        Check.same("least input", y.output(0), MIN);
        Check.same("greatest input", y.cell(3), MAX);
    }

    // "reckoned with as Java does with ints"

    private static void reckons(String kind, int first, int second, int due) {
        String name = first + " " + kind + " " + second;
        Bindtime x = Build.with("(" + kind + " (p 0) (p 1))");
        ends(name, x, first, second, due);
        x.begin(first);
        x.makeAll();
        x.run(true, 0, second, 10);
        Check.same(name + ", made for the first one", x.result(), due);
        Check.same(name + ", like", x.isLike(second), true);
        // Both are known in a call that is carried out ahead, so that the number comes out as it is made.
        Bindtime y = Build.with("(c 1 (p 0) (i))", "(" + kind + " (p 0) (r 3))");
        Bindtime z = Build.with("(; (s 0 (p 0)) (" + kind + " (x 0) " + known(second) + "))");
        z.begin(first);
        z.makeAll();
        Check.same(name + ", both known, one node", z.sizeOf(0), 1);
        z.run(true, 0, 0, 1);
        Check.same(name + ", both known", z.result(), due);
        y.begin(first);
        y.makeAll();
        Check.same(name + ", late cell, like", y.isLike(0), true);
    }

    /** A known number that need not be from -999 to 999. */
    private static String known(int number) {
        if (number >= -999 && number <= 999) {
            return "(n " + number + ")";
        }
        int rest = number % 900;
        return "(+ (* " + known(number / 900) + " (n 900)) (n " + rest + "))";
    }

    private static void wrapAround() {
        reckons("+", MAX, 1, MIN);
        reckons("+", MIN, -1, MAX);
        reckons("+", MIN, MIN, 0);
        reckons("+", MAX, 0, MAX);
        reckons("-", MIN, 1, MAX);
        reckons("-", MAX, -1, MIN);
        reckons("-", 0, MIN, MIN);
        reckons("-", MIN, 0, MIN);
        reckons("*", MAX, 2, -2);
        reckons("*", MIN, -1, MIN);
        reckons("*", 65536, 65536, 0);
        reckons("*", 46341, 46341, -2147479015);
        reckons("*", 46340, 46340, 2147395600);
        reckons("*", MIN, MIN, 0);
    }

    private static void comparisons() {
        reckons("<", MIN, MAX, 1);
        reckons("<", MAX, MIN, 0);
        reckons("<", MIN, 1, 1);
        reckons("<", 1, MIN, 0);
        reckons("<", MAX, -1, 0);
        reckons("<", -1, MAX, 1);
        reckons("<", 6, 7, 1);
        reckons("<", 7, 7, 0);
        reckons("<", 8, 7, 0);
        reckons("=", 7, 7, 1);
        reckons("=", 6, 7, 0);
        reckons("=", 8, 7, 0);
        reckons("=", MIN, MIN, 1);
        reckons("=", MAX, MIN, 0);
        reckons("=", 1000000, 1000000, 1);
    }

    // "the quotient, rounded toward 0; if the second part gives 0, the number 900 is thrown"

    private static void division() {
        reckons("/", 7, 2, 3);
        reckons("/", -7, 2, -3);
        reckons("/", 7, -2, -3);
        reckons("/", -7, -2, 3);
        reckons("/", -1, 2, 0);
        reckons("/", 1, -2, 0);
        reckons("/", 0, -5, 0);
        reckons("/", MIN, -1, MIN);
        reckons("/", MIN, 1, MIN);
        reckons("/", MAX, -1, -MAX);
        reckons("/", MIN, MAX, -1);
        reckons("/", MAX, MIN, 0);
        for (int first : new int[] {0, 1, -1, MIN, MAX}) {
            Bindtime x = Build.with("(/ (o (p 0)) (o (p 1)))");
            throwsOut(first + " by 0", x, first, 0, 900);
            Check.same(first + " by 0, both parts were asked", x.outputs(), 2);
            Check.same(first + " by 0, cell 3 is not touched", x.cell(3), 0);
            x.begin(first);
            x.makeAll();
            Check.same(first + " by 0, made", x.run(true, 0, 0, 100), 'd');
            Check.same(first + " by 0, made, thrown", x.result(), 900);
            Bindtime y = Build.done(first, "(/ (p 0) (n 0))");
            Check.same(first + " by a known 0 is not reckoned ahead", y.countOf(0, '/'), 1);
            Check.same(first + " by a known 0", y.run(true, 0, 0, 100), 'd');
            Check.same(first + " by a known 0, thrown", y.result(), 900);
        }
        ends("caught", Build.with("(t (/ (n 1) (p 0)) (r 3))"), 0, 0, 900);
    }

    // "the part b if the part a does not give 0, otherwise c"

    private static void decisions() {
        Bindtime x = Build.with("(? (p 1) (o (n 1)) (o (n 2)))");
        Bindtime y = Build.with("(? (p 0) (o (n 1)) (o (n 2)))");
        for (int test : new int[] {0, 1, -1, 2, MIN, MAX}) {
            ends("decided by " + test, x, 0, test, test == 0 ? 2 : 1);
            Check.same("the other part is not asked, " + test, x.outputs(), 1);
            Check.same("three nodes, and 'o', are asked, " + test, x.steps(), 4);
            y.begin(test);
            y.makeAll();
            y.run(true, 0, 0, 100);
            Check.same("decided ahead by " + test, y.result(), test == 0 ? 2 : 1);
            Check.same("decided ahead, nothing of '?' stays, " + test, y.countOf(0, '?'), 0);
        }
    }

    // "a procedure without a body gives 0"

    private static void callsWithoutBody() {
        for (int i = 1; i < 5; i++) {
            Bindtime x = Build.with("(+ (n 30) (c " + i + " (o (n 5)) (o (n 6))))");
            ends("no body " + i, x, 0, 0, 30);
            Check.same("no body, its parts are asked " + i, x.outputs(), 2);
            Check.same("no body, steps " + i, x.steps(), 7);
            x.setBody(i, 1);
            ends("a body " + i, x, 0, 0, 30 + 5);
            x.setBody(i, -1);
            ends("no body again " + i, x, 0, 0, 30);
        }
    }

    // "if a number is thrown in it, the cell 3 becomes this number [..]; what was done stays done"

    private static void thrown() {
        Bindtime x = Build.with("(; (w 3 (n 8)) (t (d (p 1)) (+ (r 3) (n 1))))");
        for (int number : new int[] {0, 1, -1, 900, MIN, MAX}) {
            ends("thrown and caught " + number, x, 0, number, number + 1);
            Check.same("cell 3 " + number, x.cell(3), number);
        }
        Bindtime none = Build.with("(; (w 3 (n 8)) (t (o (n 1)) (o (n 2))))");
        ends("nothing is thrown", none, 0, 0, 1);
        Check.same("nothing is thrown, the second part is not asked", none.outputs(), 1);
        Check.same("nothing is thrown, cell 3 stays", none.cell(3), 8);
        Bindtime done = Build.with("(t (; (; (s 0 (n 4)) (w 0 (n 5))) (; (o (n 6)) (d (n 1)))) (+ (x 0) (r 0)))");
        ends("what was done stays done", done, 0, 0, 9);
        Check.same("what was put out stays", done.outputs(), 1);
        throwsOut("thrown by the second part", Build.with("(t (d (n 1)) (d (n 2)))"), 0, 0, 2);
        ends("the inner one catches", Build.with("(t (t (d (n 1)) (n 5)) (n 6))"), 0, 0, 5);
        ends("the outer one catches what the inner second part throws",
                Build.with("(t (t (d (n 1)) (d (n 2))) (+ (r 3) (n 6)))"), 0, 0, 8);
        ends("thrown over procedures", Build.with("(t (c 1 (n 1) (n 2)) (r 3))", "(c 2 (p 1) (p 0))", "(d (p 0))"), 0, 0, 2);
        throwsOut("0 is thrown out", Build.with("(d (n 0))"), 0, 0, 0);
    }

    // "Each node that is asked is a step. The run is over when a node is asked and as many steps as are allowed were made"

    private static void steps() {
        String[] trees = {"(n 5)", "(o (n 5))", "(+ (n 2) (n 3))", "(? (n 1) (n 5) (n 6))", "(; (n 1) (n 5))", "(t (n 5) (n 1))",
            "(t (d (n 1)) (n 5))", "(c 4 (n 1) (n 2))", "(c 1 (n 2) (n 3))", "(s 0 (n 5))", "(w 0 (n 5))", "(i)"};
        int[] due = {1, 2, 3, 3, 3, 2, 4, 3, 6, 2, 2, 1};
        for (int i = 0; i < trees.length; i++) {
            Bindtime x = Build.with(trees[i], "(+ (p 0) (p 1))");
            Check.same("as many steps as are allowed, " + trees[i], x.run(false, 0, 0, due[i]), 'e');
            Check.same("steps, " + trees[i], x.steps(), due[i]);
            for (int allowed = 1; allowed < due[i]; allowed++) {
                Check.same("less are allowed, " + trees[i], x.run(false, 0, 0, allowed), 'l');
                Check.same("less are allowed, steps, " + trees[i], x.steps(), allowed);
                Check.same("less are allowed, result, " + trees[i], x.result(), 0);
            }
        }
        Bindtime x = Build.with("(t (; (o (n 1)) (; (o (n 2)) (d (o (n 3))))) (n 9))");
        Check.same("over is not caught", x.run(false, 0, 0, 10), 'l');
        Check.same("over is not caught, cell 3", x.cell(3), 3);
        Check.same("over, what was put out", x.outputs(), 3);
        x.run(false, 0, 0, 4);
        Check.same("over, what was put out until then", x.outputs(), 1);
    }

    // "steps: the number of steps that are allowed, 1 to 2000"

    /** A sum of 2 to the power of the depth of inputs: two times as many nodes, less one. */
    private static String wide(int depth) {
        String tree = "(i)";
        for (int i = 0; i < depth; i++) {
            tree = "(+ " + tree + " " + tree + ")";
        }
        return tree;
    }

    private static void mostSteps() {
        // 1023 + 1 + 511 + 1 + 255 + 1 + 127 + 1 + 63 + 1 + 15 + 1 are 2000 steps.
        String tree = "(+ " + wide(9) + " (+ " + wide(8) + " (+ " + wide(7) + " (+ " + wide(6) + " (+ " + wide(5) + " (o "
                + wide(3) + "))))))";
        Bindtime x = Build.with(tree);
        Check.same("2000 steps are enough", x.run(false, 0, 0, 2000), 'e');
        Check.same("2000 steps", x.steps(), 2000);
        Check.same("1999 steps are not enough", x.run(false, 0, 0, 1999), 'l');
        Check.same("1999 steps", x.steps(), 1999);
        Bindtime y = Build.with("(o " + tree + ")");
        Check.same("2000 steps are one too few", y.run(false, 0, 0, 2000), 'l');
        Check.same("2000 steps of 2001", y.steps(), 2000);
        Check.same("the last node was not reached, so that neither 'o' was done", y.outputs(), 0);
        Check.same("2001 are not allowed", Build.outcome(() -> x.run(false, 0, 0, 2001)), "IllegalArgumentException");
        Check.same("0 are not allowed", Build.outcome(() -> x.run(false, 0, 0, 0)), "IllegalArgumentException");
        Check.same("1 is allowed", x.run(false, 0, 0, 1), 'l');
        Check.same("1 step", x.steps(), 1);
        Check.same("all steps", x.allSteps(), 4000L);
    }

    // "when a node is asked inside of 200 others that are not done, over all procedures that are run"

    /** So many nodes around a tree, each of which asks one part only. */
    private static String around(int count, String tree) {
        String result = tree;
        for (int i = 0; i < count; i++) {
            result = "(o " + result + ")";
        }
        return result;
    }

    /** Procedure 0 is ten times around itself, with the second number as a counter: ten times 18 and '?' and 'c'. */
    private static Bindtime tower(String last) {
        return Build.with(around(18, "(? (p 1) (c 0 (n 7) (- (p 1) (n 1))) " + last + ")"));
    }

    private static void depth() {
        // The ninth call is inside of 9 * 20 nodes; its own ones are 18 and '?'; what is last is inside of 199 or more.
        // The steps of a call are 18, '?' and its test, 'c', and the 4 nodes of its parts.
        int stepsOfTen = 9 * (18 + 2 + 1 + 4) + 18 + 2;
        Bindtime inside199 = tower("(n 5)");
        ends("a node inside of 199 others", inside199, 7, 9, 5);
        Check.same("a node inside of 199 others, steps", inside199.steps(), stepsOfTen + 1);
        Bindtime inside200 = tower("(o (n 5))");
        Check.same("a node inside of 200 others", inside200.run(false, 7, 9, 2000), 'l');
        Check.same("a node inside of 200 others, result", inside200.result(), 0);
        Check.same("a node inside of 200 others, nothing is put out", inside200.outputs(), 0);
        Check.same("a node inside of 200 others, steps", inside200.steps(), stepsOfTen + 1);
        ends("one call less", inside200, 7, 8, 5);
        Bindtime second = tower("(; (n 1) (n 5))");
        Check.same("a second part inside of 200 others", second.run(false, 7, 9, 2000), 'l');
        Bindtime test = tower("(c 4 (n 1) (n 2))");
        Check.same("parts of a call inside of 200 others", test.run(false, 7, 9, 2000), 'l');
        Bindtime caught = tower("(t (o (n 5)) (n 5))");
        Check.same("over for depth is not caught", caught.run(false, 7, 9, 2000), 'l');
    }

    private static void depthOfMade() {
        Bindtime inside199 = tower("(i)");
        inside199.setAhead(0);
        inside199.begin(7);
        inside199.makeAll();
        Check.same("made: calls itself", inside199.procedures(), 1);
        Check.same("made: a node inside of 199 others", inside199.run(true, 0, 9, 2000), 'e');
        Bindtime inside200 = tower("(o (i))");
        inside200.setAhead(0);
        inside200.begin(7);
        inside200.makeAll();
        Check.same("made: a node inside of 200 others", inside200.run(true, 0, 9, 2000), 'l');
        Check.same("made: nothing is put out", inside200.outputs(), 0);
        Check.same("made: one call less", inside200.run(true, 0, 8, 2000), 'e');
        Check.same("both over are like", inside200.isLike(9), true);
    }

    private static void depthOverAllProcedures() {
        // Nodes that are done do not count: many parts beside one another are no depth.
        Bindtime beside = Build.with(around(30, wide(4)));
        Check.same("nodes that are done", beside.run(false, 0, 0, 2000), 'e');
        // Nodes out of which a number was thrown are done as well.
        Bindtime thrown = Build.with(
                "(; (t (c 1 (n 8) (n 0)) (n 0)) (; (t (c 1 (n 8) (n 0)) (n 0)) (c 1 (n 7) (n 1))))",
                around(17, "(? (p 0) (c 1 (- (p 0) (n 1)) (p 1)) (? (p 1) (n 3) (d (n 1))))"));
        ends("nodes that were thrown out of", thrown, 0, 0, 3);
        // What counts is the sum: so many and 'c' in the procedure 0, 8 * (19 + 2) and 19 + 1 in the procedure 1.
        for (int more = 0; more < 2; more++) {
            Bindtime mixed = Build.with(around(10 + more, "(c 1 (n 8) (p 1))"),
                    around(19, "(? (p 0) (c 1 (- (p 0) (n 1)) (p 1)) (i))"));
            Check.same("a node inside of " + (199 + more) + " of two procedures", mixed.run(false, 0, 0, 2000),
                    more == 0 ? 'e' : 'l');
        }
    }

    // "when a procedure with a body is to be run while 10 are being run, the procedure 0 counted"

    private static void procedures() {
        Bindtime x = Build.with("(? (p 1) (c 0 (p 0) (- (p 1) (n 1))) (p 0))");
        ends("ten are run", x, 4, 9, 4);
        Check.same("ten are run, steps", x.steps(), 9 * 7 + 3);
        over("the eleventh", x, false, 10, 10 * 7);
        Bindtime none = Build.with("(? (p 1) (c 0 (p 0) (- (p 1) (n 1))) (c 1 (n 3) (n 4)))");
        ends("the eleventh has no body", none, 4, 9, 0);
        none.setBody(1, 0);
        over("the eleventh has a body", none, false, 9, 9 * 7 + 5);
        Bindtime caught = Build.with("(t (? (p 1) (c 0 (p 0) (- (p 1) (n 1))) (p 0)) (n 5))");
        Check.same("over is not caught", caught.run(false, 0, 10, 2000), 'l');
        Bindtime again = Build.with("(? (p 1) (+ (c 0 (p 0) (- (p 1) (n 1))) (c 0 (p 0) (n 0))) (n 1))");
        ends("those that are done do not count", again, 0, 9, 10);
        Bindtime thrown = Build.with("(; (t (c 1 (n 8) (n 0)) (n 0)) (c 1 (n 8) (n 1)))",
                "(? (p 0) (c 1 (- (p 0) (n 1)) (p 1)) (? (p 1) (n 3) (d (n 1))))");
        ends("those that were thrown out of do not count", thrown, 0, 0, 3);
    }

    private static void proceduresOfMade() {
        Bindtime x = Build.with("(? (p 1) (c 0 (p 0) (- (p 1) (n 1))) (p 0))");
        x.setAhead(0);
        x.begin(7);
        x.makeAll();
        Check.same("made ones, ten are run", x.run(true, 0, 9, 2000), 'e');
        Check.same("made ones, ten are run, result", x.result(), 7);
        over("made ones, the eleventh", x, true, 10, 10 * 6);
        // Carried out ahead: four calls stand in the made procedure 0, so that more of them may be run in all.
        Bindtime y = Build.with("(? (p 0) (+ (n 1) (c 0 (- (p 0) (n 1)) (p 1))) (i))");
        y.begin(12);
        y.makeAll();
        Check.same("carried out ahead, the original is over", y.run(false, 12, 0, 2000), 'l');
        Check.same("one over is like", y.isLike(0), true);
    }

    // "Returns how many numbers the last run put out", "if there is no such number"

    private static void outputs() {
        Bindtime none = Build.with("(n 1)");
        none.run(false, 0, 0, 1);
        Check.same("nothing was put out", none.outputs(), 0);
        Check.same("no output 0", Build.outcome(() -> none.output(0)), "NoSuchElementException");
        // 2 * 511 'o' nodes and 511 ';' around them are 1533 + 1 steps.
        String tree = "(o (p 1))";
        for (int i = 0; i < 9; i++) {
            tree = "(; " + tree + " " + tree + ")";
        }
        Bindtime many = Build.with(tree);
        Check.same("many, end", many.run(false, 0, 6, 2000), 'e');
        Check.same("many, outputs", many.outputs(), 512);
        Check.same("many, first", many.output(0), 6);
        Check.same("many, last", many.output(511), 6);
        Check.same("many, one more", Build.outcome(() -> many.output(512)), "NoSuchElementException");
        Check.same("many, -1", Build.outcome(() -> many.output(-1)), "NoSuchElementException");
        Check.same("many, least", Build.outcome(() -> many.output(MIN)), "NoSuchElementException");
        Check.same("many, greatest", Build.outcome(() -> many.output(MAX)), "NoSuchElementException");
        many.run(false, 0, 6, 1);
        Check.same("those of the run before are gone", many.outputs(), 0);
        Check.same("those of the run before are gone, first", Build.outcome(() -> many.output(0)), "NoSuchElementException");
    }

    // "the early number; any for the made program", and the numbers of any size

    private static void numbersOfRuns() {
        for (int number : new int[] {MIN, -1, 0, 1, MAX}) {
            Bindtime x = Build.with("(; (o (p 1)) (p 0))");
            ends("first number " + number, x, number, 3, number);
            ends("second number " + number, x, 3, number, 3);
            Check.same("second number, put out " + number, x.output(0), number);
            x.begin(number);
            Check.same("known " + number, x.known(0, 0), number);
            x.makeAll();
            Check.same("made for " + number, x.run(true, 99, number, 10), 'e');
            Check.same("made, result " + number, x.result(), number);
            Check.same("made, put out " + number, x.output(0), number);
            for (int any : new int[] {MIN, -5, 0, MAX}) {
                x.run(true, any, 2, 10);
                Check.same("any early number for the made program " + any, x.result(), number);
            }
        }
    }
}
