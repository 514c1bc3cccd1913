/** The rules of making, each on a program whose made bodies were worked out by hand from the document. */
public final class MakingTest {
    private static final int[] INPUTS = {3, -4};

    static Bindtime made(int early, String... bodies) {
        return made(early, 4, 3, bodies);
    }

    static Bindtime made(int early, int ahead, int most, String... bodies) {
        Bindtime x = new Bindtime();
        Trees trees = new Trees(x);
        for (int i = 0; i < bodies.length; i++) {
            if (!bodies[i].isEmpty()) {
                trees.body(i, bodies[i]);
            }
        }
        x.setAhead(ahead);
        x.setMade(most);
        for (int number : INPUTS) {
            x.addInput(number);
        }
        x.begin(early);
        x.makeAll();
        return x;
    }

    static void looks(String name, Bindtime x, String... trees) {
        Check.same(name + ", state", x.state(), 'd');
        if (x.state() != 'd') {
            return;
        }
        Check.same(name + ", procedures", x.procedures(), trees.length);
        for (int i = 0; i < Math.min(trees.length, x.procedures()); i++) {
            Trees.looksLike(name + ", made " + i, x, i, trees[i]);
        }
        Trees.runsLike(name, x, INPUTS, trees);
        Check.same(name + ", consistent", x.isConsistent(), true);
    }

    private static void steps(String name, Bindtime x, int late, char end, int steps) {
        Check.same(name + ", end", x.run(true, 0, late, 2000), end);
        Check.same(name + ", steps", x.steps(), steps);
    }

    public static void main(String[] args) {
        leaves();
        sums();
        slotsAndCells();
        orderOfParts();
        outAndThrow();
        division();
        sequence();
        choice();
        choiceOfTheSame();
        choiceThatSettles();
        attempt();
        attemptMakesSafe();
        callWithoutBody();
        callAhead();
        callMade();
        whatIsFound();
        slotsOfMade();
        limits();
        Check.end("MakingTest");
    }

    private static void leaves() {
        looks("n", made(5, "(n 7)"), "(n 7)");
        looks("known p", made(5, "(p 0)"), "(n 5)");
        looks("late p", made(5, "(p 1)"), "(p 0)");
        looks("slot 0 at first", made(5, "(x 2)"), "(n 0)");
        looks("cell late at first", made(5, "(r 2)"), "(r 2)");
        looks("input", made(5, "(i)"), "(i)");
    }

    private static void sums() {
        looks("known sum", made(5, "(+ (p 0) (n 3))"), "(n 8)");
        looks("late sum", made(5, "(+ (p 0) (p 1))"), "(+ (n 5) (p 0))");
        looks("sum in late sum", made(5, "(* (p 1) (- (p 0) (n 3)))"), "(* (p 0) (n 2))");
        looks("less", made(5, "(< (p 0) (n 6))"), "(n 1)");
        looks("equal", made(5, "(= (p 0) (n 6))"), "(n 0)");
        Bindtime x = made(Integer.MIN_VALUE, "(/ (p 0) (n -1))");
        looks("least by -1", x, "(n -2147483648)");
        x.run(true, 0, 0, 10);
        Check.same("least by -1, number", x.result(), Integer.MIN_VALUE);
    }

    private static void slotsAndCells() {
        looks("known slot", made(5, "(; (s 1 (p 0)) (x 1))"), "(n 5)");
        looks("late slot", made(5, "(; (s 1 (p 1)) (x 1))"), "(; (s 1 (p 0)) (x 1))");
        looks("slot as value", made(5, "(s 1 (p 1))"), "(s 1 (p 0))");
        looks("known cell at the end", made(5, "(w 2 (p 0))"), "(; (w 2 (n 5)) (n 5))");
        looks("late cell", made(5, "(w 2 (p 1))"), "(w 2 (p 0))");
        looks("cell known, then late", made(5, "(; (w 2 (n 1)) (w 2 (p 1)))"), "(w 2 (p 0))");
        looks("late value settled at the end, cells by rising numbers",
                made(5, "(; (w 2 (n 1)) (; (w 0 (n 4)) (+ (p 1) (n 2))))"),
                "(; (s 4 (+ (p 0) (n 2))) (; (w 0 (n 4)) (; (w 2 (n 1)) (x 4))))");
        looks("p is not settled at the end", made(5, "(; (w 2 (n 1)) (p 1))"), "(; (w 2 (n 1)) (p 0))");
    }

    private static void orderOfParts() {
        looks("first part settled", made(5, "(+ (r 0) (o (p 0)))"),
                "(; (s 4 (r 0)) (; (o (n 5)) (+ (x 4) (n 5))))");
        looks("first part p not settled", made(5, "(+ (p 1) (o (p 0)))"), "(; (o (n 5)) (+ (p 0) (n 5)))");
        looks("nothing ahead of the second", made(5, "(+ (r 0) (o (p 1)))"), "(+ (r 0) (o (p 0)))");
        looks("first part x settled once more", made(5, "(; (s 1 (p 1)) (+ (x 1) (o (p 0))))"),
                "(; (s 1 (p 0)) (; (s 4 (x 1)) (; (o (n 5)) (+ (x 4) (n 5)))))");
        looks("rows of both, the first one's first, what is settled between",
                made(5, "(- (; (o (p 1)) (r 1)) (; (o (r 0)) (i)))"),
                "(; (o (p 0)) (; (s 4 (r 1)) (; (o (r 0)) (- (x 4) (i)))))");
        Bindtime x = made(5, "(- (i) (; (o (i)) (i)))");
        looks("inputs in order", x, "(; (s 4 (i)) (; (o (i)) (- (x 4) (i))))");
        x.run(true, 0, 0, 100);
        Check.same("inputs in order, result", x.result(), 3);
        Check.same("inputs in order, out", x.output(0), -4);
    }

    private static void outAndThrow() {
        looks("known out", made(5, "(o (p 0))"), "(; (o (n 5)) (n 5))");
        looks("late out", made(5, "(o (p 1))"), "(o (p 0))");
        looks("throw", made(5, "(d (p 0))"), "(d (n 5))");
        looks("throw makes safe", made(5, "(; (w 1 (n 2)) (d (+ (p 1) (n 1))))"),
                "(; (s 4 (+ (p 0) (n 1))) (; (w 1 (n 2)) (d (x 4))))");
        looks("throw without known cells settles nothing", made(5, "(; (s 1 (n 2)) (d (+ (p 1) (n 1))))"),
                "(d (+ (p 0) (n 1)))");
    }

    private static void division() {
        looks("known division", made(7, "(/ (p 0) (n 2))"), "(n 3)");
        looks("division by 0", made(7, "(/ (p 0) (n 0))"), "(/ (n 7) (n 0))");
        looks("late by a known one is not made safe", made(7, "(; (w 0 (n 1)) (/ (p 1) (n 2)))"),
                "(; (s 4 (/ (p 0) (n 2))) (; (w 0 (n 1)) (x 4)))");
        looks("by a late one", made(7, "(; (w 0 (n 1)) (/ (r 1) (r 2)))"),
                "(; (s 4 (r 1)) (; (s 5 (r 2)) (; (w 0 (n 1)) (/ (x 4) (x 5)))))");
        looks("late one by 0", made(7, "(; (w 0 (n 1)) (/ (r 1) (n 0)))"),
                "(; (s 4 (r 1)) (; (w 0 (n 1)) (/ (x 4) (n 0))))");
        looks("no known cells", made(7, "(/ (r 1) (r 2))"), "(/ (r 1) (r 2))");
        looks("first one settled for what stands ahead, and once more to be safe",
                made(7, "(/ (r 1) (; (o (p 0)) (; (w 0 (n 1)) (p 1))))"),
                "(; (s 4 (r 1)) (; (o (n 7)) (; (s 5 (x 4)) (; (w 0 (n 1)) (/ (x 5) (p 0))))))");
    }

    private static void sequence() {
        looks("idle leaf", made(7, "(; (r 0) (n 1))"), "(n 1)");
        looks("idle sum", made(7, "(; (< (+ (r 0) (p 1)) (p 0)) (n 1))"), "(n 1)");
        looks("division is not idle", made(7, "(; (/ (p 1) (n 2)) (n 1))"), "(; (/ (p 0) (n 2)) (n 1))");
        looks("sum with an input is not idle", made(7, "(; (+ (i) (n 2)) (n 1))"), "(; (+ (i) (n 2)) (n 1))");
        looks("known", made(7, "(; (p 0) (p 1))"), "(p 0)");
        looks("row behind", made(7, "(; (o (p 1)) (o (p 0)))"), "(; (o (p 0)) (; (o (n 7)) (n 7)))");
    }

    private static void choice() {
        looks("known test, not 0", made(7, "(? (p 0) (p 1) (i))"), "(p 0)");
        looks("known test, 0", made(0, "(? (p 0) (p 1) (i))"), "(i)");
        looks("row of a known test", made(7, "(? (o (p 0)) (p 1) (i))"), "(; (o (n 7)) (p 0))");
        looks("late test", made(7, "(? (p 1) (p 0) (i))"), "(? (p 0) (n 7) (i))");
        looks("rows of both", made(7, "(? (p 1) (o (p 0)) (; (o (n 1)) (o (n 2))))"),
                "(? (p 0) (; (o (n 7)) (n 7)) (; (o (n 1)) (; (o (n 2)) (n 2))))");
        looks("each from what is known behind the test",
                made(7, "(? (; (s 0 (n 3)) (p 1)) (; (s 0 (+ (x 0) (n 1))) (x 0)) (+ (x 0) (n 2)))"),
                "(? (p 0) (; (s 0 (n 4)) (n 4)) (; (s 0 (n 3)) (n 5)))");
        looks("known behind both, and the same",
                made(7, "(; (? (p 1) (; (s 0 (n 3)) (n 1)) (; (s 0 (n 3)) (n 2))) (x 0))"),
                "(; (? (p 0) (n 1) (n 2)) (n 3))");
        looks("known behind one", made(7, "(; (? (p 1) (s 0 (n 3)) (s 0 (r 2))) (x 0))"),
                "(; (? (p 0) (; (s 0 (n 3)) (n 3)) (s 0 (r 2))) (x 0))");
        looks("known behind neither", made(7, "(; (? (p 1) (s 0 (r 1)) (s 0 (r 2))) (x 0))"),
                "(; (? (p 0) (s 0 (r 1)) (s 0 (r 2))) (x 0))");
        looks("known cell behind one", made(7, "(? (p 1) (w 1 (n 3)) (r 1))"),
                "(? (p 0) (; (w 1 (n 3)) (n 3)) (r 1))");
    }

    private static void choiceOfTheSame() {
        looks("nothing ahead, idle test", made(7, "(? (p 1) (n 4) (n 4))"), "(n 4)");
        looks("nothing ahead, test that is not idle", made(7, "(? (i) (n 4) (n 4))"), "(; (i) (n 4))");
        looks("a row", made(7, "(? (p 1) (; (o (n 1)) (n 4)) (n 4))"), "(; (? (p 0) (; (o (n 1)) (n 0)) (n 0)) (n 4))");
        looks("value goes on known", made(7, "(+ (? (p 1) (; (o (n 1)) (n 4)) (n 4)) (n 1))"),
                "(; (? (p 0) (; (o (n 1)) (n 0)) (n 0)) (n 5))");
        looks("carried out makes a row", made(7, "(? (p 1) (; (w 0 (n 1)) (n 4)) (n 4))"),
                "(; (? (p 0) (; (w 0 (n 1)) (n 0)) (n 0)) (n 4))");
    }

    private static void choiceThatSettles() {
        looks("late value settled ahead of what is carried out", made(7, "(? (p 1) (; (w 0 (n 1)) (i)) (n 4))"),
                "(? (p 0) (; (s 4 (i)) (; (w 0 (n 1)) (x 4))) (n 4))");
        looks("p is not settled", made(7, "(? (p 1) (; (w 0 (n 1)) (p 1)) (n 4))"),
                "(? (p 0) (; (w 0 (n 1)) (p 0)) (n 4))");
        looks("unlike in both: cells, then slots",
                made(7, "(? (p 1) (; (s 2 (n 1)) (; (w 3 (n 1)) (r 0))) (; (s 2 (n 2)) (; (w 3 (n 2)) (n 9))))"),
                "(? (p 0) (; (s 4 (r 0)) (; (w 3 (n 1)) (; (s 2 (n 1)) (x 4)))) (; (w 3 (n 2)) (; (s 2 (n 2)) (n 9))))");
    }

    private static void attempt() {
        String zeros = "(; (s 0 (n 0)) (; (s 1 (n 0)) (; (s 2 (n 0)) (; (s 3 (n 0)) ";
        looks("slots carried out ahead", made(7, "(t (p 1) (n 1))"), zeros + "(t (p 0) (n 1))))))");
        looks("known ones carried out at the end of each", made(7, "(t (; (w 0 (n 2)) (i)) (s 1 (n 4)))"),
                zeros + "(t (; (s 4 (i)) (; (w 0 (n 2)) (x 4))) (; (s 1 (n 4)) (n 4)))))))");
        looks("cells first", made(7, "(; (w 1 (n 6)) (t (n 1) (n 2)))"),
                "(; (w 1 (n 6)) " + zeros + "(t (n 1) (n 2)))))))");
        looks("all late behind", made(7, "(; (t (s 1 (n 1)) (s 1 (n 1))) (+ (x 1) (x 2)))"),
                zeros + "(; (t (; (s 1 (n 1)) (n 1)) (; (s 1 (n 1)) (n 1))) (+ (x 1) (x 2)))))))");
        Bindtime x = made(7, "(t (; (w 0 (n 2)) (d (p 1))) (+ (r 3) (r 0)))");
        looks("thrown in it", x, zeros + "(t (; (w 0 (n 2)) (d (p 0))) (+ (r 3) (r 0)))))))");
        x.run(true, 0, 40, 100);
        Check.same("thrown in it, result", x.result(), 42);
    }

    private static void attemptMakesSafe() {
        String zeros = "(; (s 0 (n 0)) (; (s 1 (n 0)) (; (s 2 (n 0)) (; (s 3 (n 0)) ";
        looks("slots are made safe in the first part", made(7, "(t (; (s 1 (n 4)) (d (r 0))) (x 1))"),
                zeros + "(t (; (s 4 (r 0)) (; (s 1 (n 4)) (d (x 4)))) (x 1))))))");
        looks("slots are not made safe in the second part", made(7, "(t (n 1) (; (s 1 (n 4)) (d (r 0))))"),
                zeros + "(t (n 1) (; (s 4 (d (r 0))) (; (s 1 (n 4)) (x 4))))))))");
        looks("slots of a call in the first part are made safe, too",
                made(7, "(t (c 1 (n 1) (p 1)) (n 2))", "(; (s 1 (p 1)) (d (p 0)))"),
                zeros + "(t (; (s 5 (p 0)) (; (s 4 (n 0)) (; (s 6 (n 0)) (; (s 7 (n 0)) (d (n 1)))))) (n 2))))))");
        looks("second part in a first part", made(7, "(t (t (n 1) (; (s 1 (n 4)) (d (r 0)))) (x 1))"),
                zeros + "(t (t (n 1) (; (s 4 (r 0)) (; (s 1 (n 4)) (d (x 4))))) (x 1))))))");
    }

    private static void callWithoutBody() {
        looks("nothing stays of idle parts", made(7, "(+ (c 3 (r 0) (p 1)) (n 1))"), "(n 1)");
        looks("parts that are not idle, the first one first", made(7, "(c 3 (i) (o (p 1)))"),
                "(; (i) (; (o (p 0)) (n 0)))");
        looks("settled first part is idle", made(7, "(c 3 (i) (o (p 0)))"), "(; (s 4 (i)) (; (o (n 7)) (n 0)))");
    }

    private static void callAhead() {
        looks("call ahead", made(7, "(c 1 (+ (p 0) (n 1)) (p 1))", "(* (p 0) (p 1))"), "(* (n 8) (p 0))");
        looks("late second number settled", made(7, "(c 1 (p 0) (+ (p 1) (n 1)))", "(* (p 1) (p 1))"),
                "(; (s 4 (+ (p 0) (n 1))) (* (x 4) (x 4)))");
        looks("known second number", made(7, "(c 1 (p 0) (n 6))", "(+ (p 0) (p 1))"), "(n 13)");
        looks("slots of its own", made(7, "(; (s 1 (n 5)) (+ (c 1 (p 0) (p 1)) (x 1)))", "(; (s 1 (+ (x 1) (p 0))) (x 1))"),
                "(n 12)");
        looks("late slots of its own", made(7, "(; (s 1 (r 0)) (+ (c 1 (p 0) (p 1)) (x 1)))", "(; (s 1 (r 1)) (x 1))"),
                "(; (s 1 (r 0)) (; (s 5 (r 1)) (+ (x 5) (x 1))))");
        looks("cells go on", made(7, "(; (w 0 (n 5)) (; (c 1 (p 0) (p 1)) (r 0)))", "(w 0 (+ (r 0) (p 0)))"),
                "(; (w 0 (n 12)) (n 12))");
        Bindtime x = made(3, "(? (p 0) (* (p 1) (c 0 (- (p 0) (n 1)) (p 1))) (n 1))");
        looks("power", x, "(* (p 0) (* (p 0) (* (p 0) (n 1))))");
        steps("power", x, 2, 'e', 7);
        looks("limit of calls ahead", made(3, 2, 3, "(? (p 0) (* (p 1) (c 0 (- (p 0) (n 1)) (p 1))) (n 1))"),
                "(* (p 0) (* (p 0) (* (p 0) (c 1 (p 0)))))", "(n 1)");
    }

    private static void callMade() {
        looks("made for a known number", made(7, 0, 3, "(c 1 (p 0) (+ (p 1) (n 1)))", "(- (p 0) (p 1))"),
                "(c 1 (+ (p 0) (n 1)))", "(- (n 7) (p 0))");
        Bindtime x = made(7, 0, 3, "(c 1 (p 1) (p 0))", "(- (p 0) (p 1))");
        looks("made for a known second number", x, "(c 1 (p 0))", "(- (p 0) (n 7))");
        Check.same("its original", x.original(1), 1);
        Check.same("its second number", x.known(1, 1), 7);
        Check.refuses("its first number", java.util.NoSuchElementException.class, () -> x.known(1, 0));
        looks("a late first number is not carried out ahead", made(7, 4, 3, "(c 1 (p 1) (i))", "(- (p 0) (p 1))"),
                "(c 1 (p 0) (i))", "(- (p 0) (p 1))");
        looks("both known", made(7, 0, 3, "(c 1 (p 0) (n 2))", "(- (p 0) (p 1))"), "(c 1)", "(n 5)");
        looks("made safe, and cells late behind",
                made(7, 0, 3, "(; (w 1 (n 3)) (; (s 0 (n 1)) (+ (c 1 (r 0) (p 0)) (+ (r 1) (x 0)))))", "(r 1)"),
                "(; (s 4 (r 0)) (; (w 1 (n 3)) (+ (c 1 (x 4)) (+ (r 1) (n 1)))))", "(r 1)");
    }

    private static void whatIsFound() {
        looks("the same one", made(7, 0, 3, "(+ (c 1 (n 2) (p 1)) (c 1 (n 2) (i)))", "(- (p 0) (p 1))"),
                "(+ (c 1 (p 0)) (c 1 (i)))", "(- (n 2) (p 0))");
        looks("the one for which nothing is known",
                made(7, 0, 1, "(+ (c 1 (n 2) (p 1)) (+ (c 1 (n 3) (p 1)) (c 1 (n 2) (n 4))))", "(- (p 0) (p 1))"),
                "(+ (c 1 (p 0)) (+ (c 2 (n 3) (p 0)) (c 2 (n 2) (n 4))))", "(- (n 2) (p 0))", "(- (p 0) (p 1))");
        Bindtime x = made(1, 0, 2, "(? (p 1) (c 0 (+ (p 0) (n 1)) (- (p 1) (n 1))) (p 0))");
        looks("one more than the limit, if nothing is known for it", x,
                "(? (p 0) (c 1 (- (p 0) (n 1))) (n 1))", "(? (p 0) (c 2 (n 3) (- (p 0) (n 1))) (n 2))",
                "(? (p 1) (c 2 (+ (p 0) (n 1)) (- (p 1) (n 1))) (p 0))");
        steps("one more than the limit", x, 3, 'e', 6 + 7 + 9 + 3);
        looks("made 0 is found again", made(1, 0, 2, "(? (p 1) (c 0 (p 0) (- (p 1) (n 1))) (p 0))"),
                "(? (p 0) (c 0 (- (p 0) (n 1))) (n 1))");
        looks("in the order in which they were found",
                made(7, 0, 3, "(+ (c 1 (n 1) (p 1)) (c 2 (n 1) (p 1)))", "(c 3 (p 0) (p 1))", "(c 4 (p 0) (p 1))",
                        "(d (n 3))", "(o (p 1))"),
                "(+ (c 1 (p 0)) (c 2 (p 0)))", "(c 3 (p 0))", "(c 4 (p 0))", "(d (n 3))", "(o (p 0))");
    }

    /** Each made procedure that is run has slots of its own, and as many as are needed. */
    private static void slotsOfMade() {
        Bindtime x = made(7, "(; (s 0 (p 1)) (+ (* (c 1 (p 1) (p 0)) (n 100)) (x 0)))",
                "(; (s 0 (+ (p 0) (p 1))) (; (? (< (x 0) (n 50)) (c 1 (x 0) (p 1)) (n 0)) (x 0)))");
        looks("slots of made ones", x,
                "(; (s 0 (p 0)) (+ (* (c 1 (p 0)) (n 100)) (x 0)))",
                "(; (s 0 (+ (p 0) (n 7))) (; (? (< (x 0) (n 50)) (c 1 (x 0)) (n 0)) (x 0)))");
        Check.same("slots of made ones, end", x.run(true, 0, 30, 2000), 'e');
        Check.same("slots of made ones, result", x.result(), 3730);
        String sum = "(n 0)";
        for (int i = 12; i >= 1; i--) {
            sum = "(+ (c 1 (n " + i + ") (* (p 1) (p 1))) " + sum + ")";
        }
        Bindtime many = made(7, sum, "(; (s 0 (* (p 0) (p 1))) (+ (x 0) (p 0)))");
        Check.same("many slots, end", many.run(true, 0, 3, 2000), 'e');
        Check.same("many slots, result", many.result(), 780);
        Check.same("many slots, consistent", many.isConsistent(), true);
    }

    private static void limits() {
        String tree = part("(i)", 7);
        looks("255 nodes", made(7, tree), tree);
        String small = part("(i)", 4);
        // 1 + 255 + 1 + 31 + 12 are 300 nodes in one procedure.
        String rest = "(+ (i) (+ (i) (+ (i) (+ (i) (o (o (o (i))))))))";
        looks("300 nodes in one", made(7, "(+ " + tree + " (+ " + small + " " + rest + "))"),
                "(+ " + tree + " (+ " + small + " " + rest + "))");
        fails("301 nodes in one", made(7, "(o (+ " + tree + " (+ " + small + " " + rest + ")))"));
        // 255 + 1 + 2 nodes are those of the first one, so 42 are left for the second one.
        String first = "(+ " + tree + " (c 1 (n 1) (p 1)))";
        fails("301 nodes in two",
                made(7, 0, 3, first, "(; (o (p 1)) (+ " + small + " (+ (i) (+ (i) (+ (i) (o (i)))))))"));
        Bindtime x = made(7, 0, 3, first, "(; (o (p 1)) (+ " + small + " (+ (i) (+ (i) (+ (i) (i))))))");
        Check.same("300 nodes, state", x.state(), 'd');
        Check.same("300 nodes, mean", x.meanSize(), 150.0);
        visits();
        procedures();
    }

    /** A sum of 2 to the power of the depth of leaves. */
    private static String part(String leaf, int depth) {
        String part = leaf;
        for (int i = 0; i < depth; i++) {
            part = "(+ " + part + " " + part + ")";
        }
        return part;
    }

    private static void fails(String name, Bindtime x) {
        Check.same(name, x.state(), 'f');
    }

    private static void visits() {
        String tree = part("(n 1)", 8);
        // 511 nodes and the ';' are 512; 87 or 88 more are 599 or 600; 89 more would be the 601st one.
        looks("599 nodes are made, one stands", made(7, "(; " + tree + " " + chain(87) + ")"), "(n 1)");
        looks("600 nodes are made, one stands", made(7, "(; " + tree + " " + chain(88) + ")"), "(n 1)");
        fails("601 nodes", made(7, "(; " + tree + " " + chain(89) + ")"));
    }

    /** A tree that has so many nodes where it stands, although equal ones of them are one node. */
    private static String chain(int count) {
        if (count == 1) {
            return "(n 1)";
        }
        if (count == 2) {
            return "(s 0 (n 1))";
        }
        int half = (count - 1) / 2;
        return count % 2 == 1 ? "(* " + chain(half) + " " + chain(half) + ")" : "(s 0 " + chain(count - 1) + ")";
    }

    private static void procedures() {
        // Made ones: the one for 0, and up to 3 and the general one for each of 1 to 4.
        String calls = "(+ (+ (c 1 (n 1) (p 1)) (c 1 (n 2) (p 1))) (+ (c 1 (n 3) (p 1)) (c 1 (n 4) (p 1))))";
        String three = calls.replace("c 1", "c 2");
        String last = calls.replace("c 1", "c 3");
        Bindtime full = made(7, 0, 3, "(+ " + calls + " (+ " + three + " " + "(+ (c 3 (n 1) (p 1)) (+ (c 3 (n 2) (p 1)) (c 3 (n 3) (p 1))))" + "))",
                "(p 0)", "(p 0)", "(p 0)");
        Check.same("12 made procedures, state", full.state(), 'd');
        Check.same("12 made procedures", full.procedures(), 12);
        Bindtime over = made(7, 0, 3, "(+ " + calls + " (+ " + three + " " + last + "))", "(p 0)", "(p 0)", "(p 0)");
        fails("13th made procedure", over);
        Check.same("13th made procedure, procedures", over.procedures(), 12);
    }
}
