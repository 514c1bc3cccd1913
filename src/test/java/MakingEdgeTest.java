/** The edges that the document names of making: what is just so and what is just not so, and the limits on both sides. */
public final class MakingEdgeTest {
    private static final int MIN = Integer.MIN_VALUE;
    private static final int MAX = Integer.MAX_VALUE;
    private static final String ZEROS = "(; (s 0 (n 0)) (; (s 1 (n 0)) (; (s 2 (n 0)) (; (s 3 (n 0)) ";
    /** Counts its first number down, so that a known one is carried out ahead as often as the limit allows. */
    private static final String DOWN = "(? (p 0) (+ (i) (c 0 (- (p 0) (n 1)) (p 1))) (p 1))";

    public static void main(String[] args) {
        earlyNumbers();
        foldedNumbers();
        settling();
        settlingOfFirstParts();
        safeForCells();
        safeInFirstParts();
        safeDivisions();
        safeThrows();
        safeCalls();
        carriedOutByRisingNumbers();
        idle();
        idleTests();
        sameValues();
        knownBehind();
        attempts();
        callsWithoutBody();
        limitOfCallsAhead();
        callsBesideOneAnother();
        secondNumbersAhead();
        slotsOfCalls();
        limitOfMade();
        theGeneralOne();
        madeOfZero();
        orderOfWaiting();
        thirteenth();
        deepMaking();
        sixHundred();
        sixHundredEach();
        threeHundred();
        threeHundredOfMany();
        longRows();
        slotsAsManyAsNeeded();
        slotsOfCallsThatAreDone();
        afterOneThatFailed();
        Check.end("MakingEdgeTest");
    }

    private static Bindtime made(int early, String... bodies) {
        return MakingTest.made(early, bodies);
    }

    private static Bindtime made(int early, int ahead, int most, String... bodies) {
        return MakingTest.made(early, ahead, most, bodies);
    }

    private static void looks(String name, Bindtime x, String... trees) {
        MakingTest.looks(name, x, trees);
    }

    private static void fails(String name, Bindtime x) {
        Check.same(name + ", fails", x.state(), 'f');
    }

    // "for an early number that is known"

    private static void earlyNumbers() {
        for (int early : new int[] {MIN, -1000, -1, 0, 1, 1000, MAX}) {
            looks("early " + early, made(early, "(p 0)"), "(n " + early + ")");
            looks("early beside a late one " + early, made(early, "(- (p 0) (p 1))"), "(- (n " + early + ") (p 0))");
        }
    }

    // "if both values are known [..], the value is the number that comes out"

    private static void foldedNumbers() {
        looks("greatest and 1", made(MAX, "(+ (p 0) (n 1))"), "(n " + MIN + ")");
        looks("least less 1", made(MIN, "(- (p 0) (n 1))"), "(n " + MAX + ")");
        looks("greatest times 2", made(MAX, "(* (p 0) (n 2))"), "(n -2)");
        looks("least by -1", made(MIN, "(/ (p 0) (n -1))"), "(n " + MIN + ")");
        looks("least before 1", made(MIN, "(< (p 0) (n 1))"), "(n 1)");
        looks("greatest before -1", made(MAX, "(< (p 0) (n -1))"), "(n 0)");
        looks("rounded toward 0", made(-7, "(/ (p 0) (n 2))"), "(n -3)");
        looks("a quotient of 0", made(1, "(/ (p 0) (n -2))"), "(n 0)");
        looks("0 by another", made(0, "(/ (p 0) (n 5))"), "(n 0)");
        looks("0 by 0", made(0, "(/ (p 0) (p 0))"), "(/ (n 0) (n 0))");
        looks("least by 0", made(MIN, "(/ (p 0) (n 0))"), "(/ (n " + MIN + ") (n 0))");
        looks("a sum goes on", made(MAX, "(+ (+ (p 0) (p 0)) (p 1))"), "(+ (n -2) (p 0))");
    }

    // "To settle a late value that is not of the kind p"

    private static void settling() {
        String cell = "(; (w 0 (n 1)) ";
        String end = "(; (w 0 (n 1)) (x 4)))";
        looks("p is not settled", made(7, cell + "(p 1))"), "(; (w 0 (n 1)) (p 0))");
        looks("a known one is not settled", made(7, cell + "(p 0))"), "(; (w 0 (n 1)) (n 7))");
        looks("x is settled", made(7, "(; (s 1 (p 1)) " + cell + "(x 1)))"), "(; (s 1 (p 0)) (; (s 4 (x 1)) " + end + ")");
        looks("r is settled", made(7, cell + "(r 1))"), "(; (s 4 (r 1)) " + end);
        looks("i is settled", made(7, cell + "(i))"), "(; (s 4 (i)) " + end);
        looks("a sum is settled", made(7, cell + "(+ (p 1) (n 1)))"), "(; (s 4 (+ (p 0) (n 1))) " + end);
        looks("s is settled", made(7, cell + "(s 2 (p 1)))"), "(; (s 4 (s 2 (p 0))) " + end);
        looks("w is settled", made(7, cell + "(w 2 (p 1)))"), "(; (s 4 (w 2 (p 0))) " + end);
        looks("o is settled", made(7, cell + "(o (p 1)))"), "(; (s 4 (o (p 0))) " + end);
    }

    // "if the first value is late, and something stands ahead of the second one, the first one is settled first"

    private static void settlingOfFirstParts() {
        for (String kind : new String[] {"+", "-", "*", "<", "="}) {
            looks("late, something ahead " + kind, made(7, "(" + kind + " (i) (o (p 0)))"),
                    "(; (s 4 (i)) (; (o (n 7)) (" + kind + " (x 4) (n 7))))");
            looks("late, nothing ahead " + kind, made(7, "(" + kind + " (i) (p 0))"), "(" + kind + " (i) (n 7))");
            looks("late, nothing ahead of a late one " + kind, made(7, "(" + kind + " (i) (o (i)))"),
                    "(" + kind + " (i) (o (i)))");
            looks("known, something ahead " + kind, made(7, "(" + kind + " (p 0) (; (o (p 0)) (i)))"),
                    "(; (o (n 7)) (" + kind + " (n 7) (i)))");
            looks("p, something ahead " + kind, made(7, "(" + kind + " (p 1) (; (o (p 0)) (i)))"),
                    "(; (o (n 7)) (" + kind + " (p 0) (i)))");
            looks("what stands ahead of the first one alone " + kind, made(7, "(" + kind + " (; (o (p 0)) (i)) (i))"),
                    "(; (o (n 7)) (" + kind + " (i) (i)))");
        }
        looks("'/', late, something ahead", made(7, "(/ (i) (; (o (p 0)) (n 2)))"), "(; (s 4 (i)) (; (o (n 7)) (/ (x 4) (n 2))))");
        looks("'/', late, nothing ahead", made(7, "(/ (i) (n 2))"), "(/ (i) (n 2))");
        looks("'c', late, something ahead", made(7, "(c 1 (i) (; (o (p 0)) (i)))", "(n 3)"),
                "(; (s 4 (i)) (; (o (n 7)) (c 1 (x 4) (i))))", "(n 3)");
        looks("'c', late, nothing ahead", made(7, "(c 1 (i) (i))", "(n 3)"), "(c 1 (i) (i))", "(n 3)");
        looks("nothing stands ahead of a cell that becomes known", made(7, "(+ (r 0) (w 0 (n 5)))"),
                "(; (s 4 (+ (r 0) (n 5))) (; (w 0 (n 5)) (x 4)))");
    }

    // "To make safe, with some values: if a cell is known [..], the late ones of these values are settled, the first one
    // first, then all known cells are carried out, by rising numbers"

    private static void safeForCells() {
        looks("no cell is known", made(7, "(/ (i) (i))"), "(/ (i) (i))");
        looks("a cell that was known and is late", made(7, "(; (w 0 (n 1)) (; (w 0 (p 1)) (/ (i) (i))))"),
                "(; (w 0 (p 0)) (/ (i) (i)))");
        for (int cell = 0; cell < 4; cell++) {
            looks("the cell " + cell + " is known", made(7, "(; (w " + cell + " (n 1)) (/ (i) (i)))"),
                    "(; (s 4 (i)) (; (s 5 (i)) (; (w " + cell + " (n 1)) (/ (x 4) (x 5)))))");
        }
        looks("all cells are known", made(7, "(; (; (w 3 (n 1)) (w 2 (n 2))) (; (; (w 1 (n 3)) (w 0 (n 4))) (/ (p 1) (i))))"),
                "(; (s 4 (i)) (; (w 0 (n 4)) (; (w 1 (n 3)) (; (w 2 (n 2)) (; (w 3 (n 1)) (/ (p 0) (x 4)))))))");
        looks("cells are late then", made(7, "(; (w 0 (n 1)) (; (/ (p 1) (r 1)) (r 0)))"),
                "(; (s 4 (r 1)) (; (w 0 (n 1)) (; (/ (p 0) (x 4)) (r 0))))");
        looks("a slot alone is nothing outside of 't'", made(7, "(; (s 0 (n 1)) (; (/ (i) (i)) (x 0)))"),
                "(; (/ (i) (i)) (n 1))");
    }

    // "or, while the first part of a 't' is made, a slot"

    private static void safeInFirstParts() {
        looks("neither cells nor slots are known", made(7, "(t (/ (i) (i)) (n 2))"), ZEROS + "(t (/ (i) (i)) (n 2))))))");
        looks("a slot is known", made(7, "(t (; (s 2 (n 5)) (/ (i) (i))) (x 2))"),
                ZEROS + "(t (; (s 4 (i)) (; (s 5 (i)) (; (s 2 (n 5)) (/ (x 4) (x 5))))) (x 2))))))");
        looks("a cell is known", made(7, "(t (; (w 2 (n 5)) (/ (i) (i))) (r 2))"),
                ZEROS + "(t (; (s 4 (i)) (; (s 5 (i)) (; (w 2 (n 5)) (/ (x 4) (x 5))))) (r 2))))))");
        looks("cells first, then slots", made(7, "(t (; (; (s 3 (n 1)) (s 0 (n 2))) (; (; (w 3 (n 3)) (w 0 (n 4))) (/ (i) (p 1)))) (x 3))"),
                ZEROS + "(t (; (s 4 (i)) (; (w 0 (n 4)) (; (w 3 (n 3)) (; (s 0 (n 2)) (; (s 3 (n 1)) (/ (x 4) (p 0)))))))"
                        + " (x 3))))))");
        looks("the second part", made(7, "(t (n 1) (; (s 2 (n 5)) (/ (i) (i))))"),
                ZEROS + "(t (n 1) (; (s 4 (/ (i) (i))) (; (s 2 (n 5)) (x 4))))))))");
        looks("the second part with a cell", made(7, "(t (n 1) (; (w 2 (n 5)) (/ (i) (i))))"),
                ZEROS + "(t (n 1) (; (s 4 (i)) (; (s 5 (i)) (; (w 2 (n 5)) (/ (x 4) (x 5))))))))))");
        looks("behind 't'", made(7, "(; (t (n 1) (n 1)) (; (s 2 (n 5)) (; (/ (i) (i)) (x 2))))"),
                ZEROS + "(; (t (n 1) (n 1)) (; (/ (i) (i)) (n 5)))))))");
        looks("a second part inside of a first one", made(7, "(t (t (n 1) (; (s 2 (n 5)) (/ (i) (i)))) (n 2))"),
                ZEROS + "(t (t (n 1) (; (s 4 (i)) (; (s 5 (i)) (; (s 2 (n 5)) (/ (x 4) (x 5)))))) (n 2))))))");
        looks("a first part inside of a second one", made(7, "(t (n 1) (t (; (s 2 (n 5)) (/ (i) (i))) (n 2)))"),
                ZEROS + "(t (n 1) (t (; (s 4 (i)) (; (s 5 (i)) (; (s 2 (n 5)) (/ (x 4) (x 5))))) (n 2)))))))");
        looks("a slot of an outer procedure",
                made(7, "(t (; (s 2 (n 5)) (c 1 (n 1) (p 1))) (n 2))", "(; (; (s 0 (i)) (s 1 (i))) (; (; (s 2 (i)) (s 3 (i))) (d (i))))"),
                ZEROS + "(t (; (s 4 (i)) (; (s 5 (i)) (; (s 6 (i)) (; (s 7 (i)) (; (s 8 (i)) (; (s 2 (n 5)) (d (x 8)))))))) (n 2))))))");
        looks("the first part of a 't' in a call that is carried out ahead does not reach behind it",
                made(7, "(; (c 1 (n 1) (p 1)) (; (s 2 (n 5)) (; (/ (i) (i)) (x 2))))", "(t (n 1) (n 1))"),
                "(; (s 0 (n 0)) (; (s 1 (n 0)) (; (s 2 (n 0)) (; (s 3 (n 0)) (; (s 4 (n 0)) (; (s 5 (n 0)) (; (s 6 (n 0)) "
                        + "(; (s 7 (n 0)) (; (t (n 1) (n 1)) (; (/ (i) (i)) (n 5)))))))))))");
    }

    // "for '/' with a second value that is late or 0, it is made safe with both values"

    private static void safeDivisions() {
        String cell = "(; (w 0 (n 1)) ";
        looks("late by a known one that is not 0", made(7, cell + "(/ (i) (n 2)))"),
                "(; (s 4 (/ (i) (n 2))) (; (w 0 (n 1)) (x 4)))");
        looks("late by -1", made(7, cell + "(/ (i) (n -1)))"), "(; (s 4 (/ (i) (n -1))) (; (w 0 (n 1)) (x 4)))");
        looks("late by 0", made(7, cell + "(/ (i) (n 0)))"), "(; (s 4 (i)) (; (w 0 (n 1)) (/ (x 4) (n 0))))");
        looks("known by 0", made(7, cell + "(/ (p 0) (n 0)))"), "(; (w 0 (n 1)) (/ (n 7) (n 0)))");
        looks("known by late", made(7, cell + "(/ (p 0) (i)))"), "(; (s 4 (i)) (; (w 0 (n 1)) (/ (n 7) (x 4))))");
        looks("known by p", made(7, cell + "(/ (p 0) (p 1)))"), "(; (w 0 (n 1)) (/ (n 7) (p 0)))");
        looks("known by a known one", made(7, cell + "(/ (p 0) (n 2)))"), "(; (w 0 (n 1)) (n 3))");
        for (String kind : new String[] {"+", "-", "*", "<", "="}) {
            looks("others are not made safe " + kind, made(7, cell + "(" + kind + " (i) (p 1)))"),
                    "(; (s 4 (" + kind + " (i) (p 0))) (; (w 0 (n 1)) (x 4)))");
        }
    }

    private static void safeThrows() {
        looks("a known one is thrown", made(7, "(; (w 0 (n 1)) (d (p 0)))"), "(; (w 0 (n 1)) (d (n 7)))");
        looks("p is thrown", made(7, "(; (w 0 (n 1)) (d (p 1)))"), "(; (w 0 (n 1)) (d (p 0)))");
        looks("a late one is thrown", made(7, "(; (w 0 (n 1)) (d (i)))"), "(; (s 4 (i)) (; (w 0 (n 1)) (d (x 4))))");
        looks("no cell is known", made(7, "(d (i))"), "(d (i))");
        looks("a known one, nothing is known", made(7, "(d (p 0))"), "(d (n 7))");
        looks("what stands behind is made all the same", made(7, "(+ (d (p 0)) (o (n 1)))"),
                "(; (s 4 (d (n 7))) (; (o (n 1)) (+ (x 4) (n 1))))");
    }

    private static void safeCalls() {
        looks("known and late", made(7, 0, 3, "(; (w 0 (n 1)) (c 1 (p 0) (i)))", "(n 3)"),
                "(; (s 4 (i)) (; (w 0 (n 1)) (c 1 (x 4))))", "(n 3)");
        looks("both late, the first one first", made(7, 0, 3, "(; (w 0 (n 1)) (c 1 (i) (i)))", "(- (p 0) (p 1))"),
                "(; (s 4 (i)) (; (s 5 (i)) (; (w 0 (n 1)) (c 1 (x 4) (x 5)))))", "(- (p 0) (p 1))");
        looks("no cell is known", made(7, 0, 3, "(c 1 (i) (i))", "(- (p 0) (p 1))"), "(c 1 (i) (i))", "(- (p 0) (p 1))");
        looks("all cells are late then", made(7, 0, 3, "(; (w 0 (n 1)) (; (c 1 (p 0) (p 0)) (r 0)))", "(w 0 (n 2))"),
                "(; (w 0 (n 1)) (; (c 1) (r 0)))", "(; (w 0 (n 2)) (n 2))");
        looks("slots stay known", made(7, 0, 3, "(; (s 0 (n 1)) (; (c 1 (p 0) (p 0)) (x 0)))", "(i)"), "(; (c 1) (n 1))", "(i)");
        looks("a made procedure begins with late cells", made(7, 0, 3, "(; (w 0 (n 1)) (c 1 (p 0) (p 0)))", "(r 0)"),
                "(; (w 0 (n 1)) (c 1))", "(r 0)");
    }

    // "by rising cells, and then by rising slots, those of outer procedures first"

    private static void carriedOutByRisingNumbers() {
        looks("at the end of the body", made(7, "(; (; (w 3 (n 1)) (w 1 (n 2))) (; (; (w 2 (n 3)) (w 0 (n 4))) (n 9)))"),
                "(; (w 0 (n 4)) (; (w 1 (n 2)) (; (w 2 (n 3)) (; (w 3 (n 1)) (n 9)))))");
        looks("at the end of one part of '?'", made(7, "(? (p 1) (; (; (w 3 (n 1)) (w 1 (n 2))) (n 5)) (n 6))"),
                "(? (p 0) (; (w 1 (n 2)) (; (w 3 (n 1)) (n 5))) (n 6))");
        looks("at the end of the other part of '?'", made(7, "(? (p 1) (n 6) (; (; (w 3 (n 1)) (w 1 (n 2))) (n 5)))"),
                "(? (p 0) (n 6) (; (w 1 (n 2)) (; (w 3 (n 1)) (n 5))))");
        looks("ahead of 't'", made(7, "(; (; (w 3 (n 1)) (w 1 (n 2))) (t (n 1) (n 2)))"),
                "(; (w 1 (n 2)) (; (w 3 (n 1)) " + ZEROS + "(t (n 1) (n 2))))))))");
        looks("at the end of the parts of 't'",
                made(7, "(t (; (; (w 3 (n 1)) (w 1 (n 2))) (n 5)) (; (; (w 2 (n 1)) (w 0 (n 2))) (d (i))))"),
                ZEROS + "(t (; (w 1 (n 2)) (; (w 3 (n 1)) (n 5))) (; (s 4 (i)) (; (w 0 (n 2)) (; (w 2 (n 1)) (d (x 4))))))))))");
    }

    // "a node is idle if it is of the kind n, p, x or r, or of '+' '-' '*' '<' '=' with idle parts"

    private static void idle() {
        String[] idle = {"(n 5)", "(p 0)", "(p 1)", "(x 0)", "(r 3)", "(+ (r 0) (p 1))", "(- (p 1) (n 1))", "(* (r 0) (r 0))",
            "(< (p 1) (p 0))", "(= (p 1) (p 1))", "(+ (- (* (r 0) (p 1)) (n 2)) (< (p 1) (= (r 1) (n 1))))", "(/ (p 0) (n 2))"};
        for (String one : idle) {
            looks("idle " + one, made(7, "(; " + one + " (n 3))"), "(n 3)");
        }
        String[] busy = {"(i)", "(o (p 0))", "(d (p 0))", "(/ (p 0) (n 2))", "(/ (n 3) (r 0))", "(w 0 (p 0))", "(s 0 (p 0))",
            "(+ (i) (n 1))", "(+ (n 1) (i))", "(- (p 0) (i))", "(* (p 0) (* (p 0) (o (p 0))))", "(< (i) (p 0))", "(= (p 0) (i))",
            "(+ (/ (p 0) (n 2)) (n 1))", "(? (p 0) (n 1) (n 2))", "(? (p 0) (p 0) (r 0))", "(+ (n 1) (? (p 0) (n 1) (n 2)))"};
        for (String one : busy) {
            looks("not idle " + one, made(7, "(; " + one.replace("(p 0)", "(p 1)") + " (n 3))"), "(; " + one + " (n 3))");
        }
        looks("'x' that is late is idle", made(7, "(; (s 0 (p 1)) (; (x 0) (n 3)))"), "(; (s 0 (p 0)) (n 3))");
        looks("'c' is not idle", made(7, "(; (c 1 (p 1) (p 1)) (n 3))", "(n 1)"), "(; (c 1 (p 0) (p 0)) (n 3))", "(n 1)");
        looks("'t' is not idle", made(7, "(; (t (n 1) (n 1)) (n 3))"), ZEROS + "(; (t (n 1) (n 1)) (n 3))))))");
    }

    // "if both rows have no nodes, just the value of a if it is not idle, and otherwise nothing, is put ahead"

    private static void idleTests() {
        for (String test : new String[] {"(p 1)", "(r 0)", "(+ (p 1) (r 0))"}) {
            looks("idle test " + test, made(7, "(? " + test + " (n 4) (n 4))"), "(n 4)");
        }
        for (String test : new String[] {"(i)", "(+ (p 0) (i))", "(/ (p 0) (n 2))", "(w 0 (p 0))", "(? (p 0) (n 1) (n 2))"}) {
            looks("test that is not idle " + test, made(7, "(? " + test.replace("(p 0)", "(p 1)") + " (n 4) (n 4))"),
                    "(; " + test + " (n 4))");
        }
    }

    // "If both values are known and the same, that is the value"

    private static void sameValues() {
        looks("the same", made(7, "(? (p 1) (p 0) (n 7))"), "(n 7)");
        looks("not the same", made(7, "(? (p 1) (p 0) (n 8))"), "(? (p 0) (n 7) (n 8))");
        looks("0 and 0", made(7, "(? (p 1) (n 0) (x 0))"), "(n 0)");
        looks("both late and the same node", made(7, "(? (p 1) (p 1) (p 1))"), "(? (p 0) (p 0) (p 0))");
        looks("one is late", made(7, "(? (p 1) (n 1) (p 1))"), "(? (p 0) (n 1) (p 0))");
        looks("the other one is late", made(7, "(? (p 1) (p 1) (n 1))"), "(? (p 0) (p 0) (n 1))");
        looks("the same, the first row has nodes", made(7, "(? (p 1) (; (o (n 1)) (n 4)) (n 4))"),
                "(; (? (p 0) (; (o (n 1)) (n 0)) (n 0)) (n 4))");
        looks("the same, the second row has nodes", made(7, "(? (p 1) (n 4) (; (o (n 1)) (n 4)))"),
                "(; (? (p 0) (n 0) (; (o (n 1)) (n 0))) (n 4))");
        looks("the same, both rows have nodes", made(7, "(? (p 1) (; (o (n 1)) (n 4)) (; (o (n 2)) (n 4)))"),
                "(; (? (p 0) (; (o (n 1)) (n 0)) (; (o (n 2)) (n 0))) (n 4))");
        looks("not the same, rows", made(7, "(? (p 1) (; (o (n 1)) (n 4)) (n 5))"), "(? (p 0) (; (o (n 1)) (n 4)) (n 5))");
        looks("the same by what is carried out alone", made(7, "(; (? (p 1) (; (s 0 (n 1)) (n 4)) (n 4)) (x 0))"),
                "(; (? (p 0) (; (s 0 (n 1)) (n 0)) (; (s 0 (n 0)) (n 0))) (x 0))");
        looks("the same, what is known is the same, too", made(7, "(; (? (p 1) (; (s 0 (n 1)) (n 4)) (; (s 0 (n 1)) (n 4))) (x 0))"),
                "(n 1)");
        looks("a known test, nothing of the other part", made(7, "(? (p 0) (n 4) (/ (n 1) (n 0)))"), "(n 4)");
        looks("a known test of 0", made(0, "(? (p 0) (/ (n 1) (n 0)) (n 4))"), "(n 4)");
        looks("a known test of -1", made(-1, "(? (p 0) (n 4) (/ (n 1) (n 0)))"), "(n 4)");
    }

    // "What is known behind both, and the same, is known behind the node; what is known behind one of them, but not so, is
    // carried out at its end"

    private static void knownBehind() {
        looks("a cell, both and the same", made(7, "(; (? (p 1) (; (w 0 (n 1)) (n 4)) (; (w 0 (n 1)) (n 5))) (r 0))"),
                "(; (? (p 0) (n 4) (n 5)) (; (w 0 (n 1)) (n 1)))");
        looks("a cell, both and not the same", made(7, "(; (? (p 1) (; (w 0 (n 1)) (n 4)) (; (w 0 (n 2)) (n 5))) (r 0))"),
                "(; (? (p 0) (; (w 0 (n 1)) (n 4)) (; (w 0 (n 2)) (n 5))) (r 0))");
        looks("a cell behind the first one", made(7, "(; (? (p 1) (; (w 0 (n 1)) (n 4)) (n 5)) (r 0))"),
                "(; (? (p 0) (; (w 0 (n 1)) (n 4)) (n 5)) (r 0))");
        looks("a cell behind the second one", made(7, "(; (? (p 1) (n 4) (; (w 0 (n 1)) (n 5))) (r 0))"),
                "(; (? (p 0) (n 4) (; (w 0 (n 1)) (n 5))) (r 0))");
        looks("a cell known ahead, late behind one", made(7, "(; (w 0 (n 1)) (; (? (p 1) (w 0 (p 1)) (n 5)) (r 0)))"),
                "(; (? (p 0) (w 0 (p 0)) (; (w 0 (n 1)) (n 5))) (r 0))");
        looks("a cell known ahead, late behind both", made(7, "(; (w 0 (n 1)) (; (? (p 1) (w 0 (p 1)) (w 0 (p 1))) (r 0)))"),
                "(; (? (p 0) (w 0 (p 0)) (w 0 (p 0))) (r 0))");
        looks("a cell known ahead stays known", made(7, "(; (w 0 (n 1)) (; (? (p 1) (o (i)) (n 5)) (r 0)))"),
                "(; (? (p 0) (o (i)) (n 5)) (; (w 0 (n 1)) (n 1)))");
        looks("a late value settled ahead of it", made(7, "(? (p 1) (; (s 0 (n 1)) (i)) (n 5))"),
                "(? (p 0) (; (s 4 (i)) (; (s 0 (n 1)) (x 4))) (; (s 0 (n 0)) (n 5)))");
        looks("a late value is settled once, though several are carried out",
                made(7, "(? (p 1) (; (; (w 2 (n 1)) (w 1 (n 3))) (; (s 0 (n 1)) (i))) (n 5))"),
                "(? (p 0) (; (s 4 (i)) (; (w 1 (n 3)) (; (w 2 (n 1)) (; (s 0 (n 1)) (x 4))))) (; (s 0 (n 0)) (n 5)))");
        looks("late values of both", made(7, "(? (p 1) (; (s 0 (n 1)) (i)) (; (s 0 (n 2)) (o (i))))"),
                "(? (p 0) (; (s 4 (i)) (; (s 0 (n 1)) (x 4))) (; (s 5 (o (i))) (; (s 0 (n 2)) (x 5))))");
        looks("a late value, nothing carried out", made(7, "(? (p 1) (; (s 0 (n 0)) (i)) (n 5))"), "(? (p 0) (i) (n 5))");
        looks("a known value, something carried out", made(7, "(? (p 1) (; (s 0 (n 1)) (n 4)) (i))"),
                "(? (p 0) (; (s 0 (n 1)) (n 4)) (; (s 4 (i)) (; (s 0 (n 0)) (x 4))))");
    }

    // "all is late behind it", "all is carried out at the end of each"

    private static void attempts() {
        looks("cells are late behind", made(7, "(; (w 0 (n 1)) (; (t (n 1) (n 2)) (r 0)))"),
                "(; (w 0 (n 1)) " + ZEROS + "(; (t (n 1) (n 2)) (r 0)))))))");
        looks("slots are late behind", made(7, "(; (t (s 1 (n 1)) (s 1 (n 1))) (x 1))"),
                ZEROS + "(; (t (; (s 1 (n 1)) (n 1)) (; (s 1 (n 1)) (n 1))) (x 1))))))");
        looks("each begins with all late", made(7, "(; (s 1 (n 4)) (t (x 1) (x 1)))"),
                "(; (s 0 (n 0)) (; (s 1 (n 4)) (; (s 2 (n 0)) (; (s 3 (n 0)) (t (x 1) (x 1))))))");
        looks("the second one does not begin with what the first one knows", made(7, "(t (s 1 (n 4)) (x 1))"),
                ZEROS + "(t (; (s 1 (n 4)) (n 4)) (x 1))))))");
        looks("nothing is known: nothing is carried out", made(7, "(; (t (n 1) (n 2)) (t (i) (n 4)))"),
                ZEROS + "(; (t (n 1) (n 2)) (t (i) (n 4)))))))");
        looks("a late value of the first part is settled", made(7, "(t (; (w 0 (n 4)) (i)) (n 1))"),
                ZEROS + "(t (; (s 4 (i)) (; (w 0 (n 4)) (x 4))) (n 1))))))");
        looks("p is not settled", made(7, "(t (; (w 0 (n 4)) (p 1)) (n 1))"), ZEROS + "(t (; (w 0 (n 4)) (p 0)) (n 1))))))");
        looks("slots of a call, those of outer procedures first", made(7, "(c 1 (p 0) (p 1))", "(t (p 0) (p 1))"),
                "(; (s 0 (n 0)) (; (s 1 (n 0)) (; (s 2 (n 0)) (; (s 3 (n 0)) (; (s 4 (n 0)) (; (s 5 (n 0)) (; (s 6 (n 0)) "
                        + "(; (s 7 (n 0)) (t (n 7) (p 0))))))))))");
    }

    // "If the procedure has no body, a late value of either is put ahead unless it is idle, b's first, and the value is 0"

    private static void callsWithoutBody() {
        looks("both known", made(7, "(c 1 (p 0) (n 2))"), "(n 0)");
        looks("both idle", made(7, "(c 1 (p 1) (+ (r 0) (p 1)))"), "(n 0)");
        looks("the first one is not idle", made(7, "(c 1 (i) (p 1))"), "(; (i) (n 0))");
        looks("the second one is not idle", made(7, "(c 1 (p 1) (i))"), "(; (i) (n 0))");
        looks("neither is idle, b's first", made(7, "(c 1 (o (p 1)) (o (i)))"), "(; (o (p 0)) (; (o (i)) (n 0)))");
        looks("it is no call that is carried out ahead or made", made(7, 0, 1, "(+ (c 1 (p 0) (p 1)) (n 3))"), "(n 3)");
        looks("it is not made safe", made(7, "(; (w 0 (n 1)) (; (c 1 (i) (p 1)) (r 0)))"), "(; (i) (; (w 0 (n 1)) (n 1)))");
    }

    // "If the first value is known, and fewer than the limit of calls are being carried out ahead"

    private static void limitOfCallsAhead() {
        for (int limit = 0; limit <= 6; limit++) {
            for (int calls = 0; calls <= 7; calls++) {
                Bindtime x = made(calls, limit, 3, DOWN);
                String name = calls + " calls, " + limit + " ahead";
                Check.same(name + ", state", x.state(), 'd');
                Check.same(name + ", inputs", x.countOf(0, 'i'), calls <= limit ? calls : limit + 1);
                Check.same(name + ", calls", x.countOf(0, 'c'), calls <= limit ? 0 : 1);
                if (calls > limit) {
                    Check.same(name + ", known", x.known(1, 0), calls - limit - 1);
                } else {
                    Check.same(name + ", none is found", x.procedures(), 1);
                }
            }
        }
        looks("a late first value is not carried out ahead, whatever the limit", made(7, 6, 3, "(c 1 (p 1) (p 0))", "(n 3)"),
                "(c 1 (p 0))", "(n 3)");
        looks("just within the limit", made(2, 2, 3, DOWN), "(+ (i) (+ (i) (p 0)))");
        looks("just over the limit", made(2, 1, 3, DOWN), "(+ (i) (+ (i) (c 1 (p 0))))", "(p 0)");
        looks("a limit of 0", made(1, 0, 3, DOWN), "(+ (i) (c 1 (p 0)))", "(p 0)");
    }

    // Those that are done are not "being carried out ahead".

    private static void callsBesideOneAnother() {
        String two = "(+ (c 1 (p 0) (p 1)) (c 1 (n 2) (p 1)))";
        looks("two beside one another, a limit of 1", made(7, 1, 3, two, "(* (p 0) (p 1))"), "(+ (* (n 7) (p 0)) (* (n 2) (p 0)))");
        looks("two beside one another, a limit of 0", made(7, 0, 3, two, "(* (p 0) (p 1))"),
                "(+ (c 1 (p 0)) (c 2 (p 0)))", "(* (n 7) (p 0))", "(* (n 2) (p 0))");
        looks("the parts of a call are made before it", made(7, 1, 3, "(c 1 (c 1 (p 0) (n 2)) (c 1 (n 3) (p 1)))", "(* (p 0) (p 1))"),
                "(; (s 4 (* (n 3) (p 0))) (* (n 14) (x 4)))");
        looks("each made procedure has the whole limit", made(7, 1, 3, "(c 1 (p 1) (p 1))", "(c 2 (n 3) (p 1))", "(+ (p 0) (p 1))"),
                "(c 1 (p 0) (p 0))", "(+ (n 3) (p 1))");
    }

    // "a late second value is settled, and the body is made with the numbers known or late, 'x' or 'p' as they are"

    private static void secondNumbersAhead() {
        String twice = "(* (p 1) (p 1))";
        looks("known", made(7, "(c 1 (n 1) (p 0))", twice), "(n 49)");
        looks("p", made(7, "(c 1 (n 1) (p 1))", twice), "(* (p 0) (p 0))");
        looks("i", made(7, "(c 1 (n 1) (i))", twice), "(; (s 4 (i)) (* (x 4) (x 4)))");
        looks("x", made(7, "(; (s 0 (p 1)) (c 1 (n 1) (x 0)))", twice), "(; (s 0 (p 0)) (; (s 4 (x 0)) (* (x 4) (x 4))))");
        looks("x of a number that was settled", made(7, "(c 1 (n 1) (i))", "(c 2 (n 1) (p 1))", twice),
                "(; (s 4 (i)) (; (s 9 (x 4)) (* (x 9) (x 9))))");
        looks("settled though it is not used", made(7, "(c 1 (n 1) (i))", "(n 5)"), "(; (s 4 (i)) (n 5))");
        looks("settled ahead of what the body puts ahead", made(7, "(c 1 (n 1) (i))", "(; (o (n 2)) (o (p 1)))"),
                "(; (s 4 (i)) (; (o (n 2)) (o (x 4))))");
    }

    // "slots that are 0", "also if it is 'x' of one of its slots; no call has slots of another one"

    private static void slotsOfCalls() {
        looks("'x' of one of its slots", made(7, "(+ (c 1 (n 1) (p 1)) (n 1))", "(; (s 0 (p 1)) (x 0))"),
                "(; (s 4 (p 0)) (+ (x 4) (n 1)))");
        looks("no call has slots of another one", made(7, "(+ (c 1 (n 1) (p 1)) (c 1 (n 1) (r 0)))", "(; (s 0 (p 1)) (x 0))"),
                "(; (s 4 (p 0)) (; (s 8 (x 4)) (; (s 9 (r 0)) (; (s 10 (x 9)) (+ (x 8) (x 10))))))");
        looks("slots are 0 again in the next call", made(7, "(+ (c 1 (n 1) (p 1)) (c 1 (n 2) (p 1)))", "(s 0 (+ (x 0) (p 0)))"), "(n 3)");
        String late = "(- (c 1 (p 0) (p 1)) (x 1))";
        looks("late slots of the caller stay", made(7, "(; (s 1 (p 1)) " + late + ")", "(; (s 1 (+ (p 1) (p 0))) (x 1))"),
                "(; (s 1 (p 0)) (; (s 5 (+ (p 0) (n 7))) (- (x 5) (x 1))))");
        looks("late slots of three stay", made(7, "(; (s 1 (p 1)) " + late + ")", "(; (s 1 (+ (p 1) (p 0))) (- (c 2 (p 0) (p 1)) (x 1)))",
                "(; (s 1 (* (p 1) (p 0))) (x 1))"),
                "(; (s 1 (p 0)) (; (s 5 (+ (p 0) (n 7))) (; (s 9 (* (p 0) (n 7))) (- (- (x 9) (x 5)) (x 1)))))");
        looks("slots of the caller stay", made(7, "(; (s 0 (n 5)) (; (c 1 (n 1) (p 1)) (x 0)))", "(s 0 (p 1))"),
                "(; (s 4 (p 0)) (n 5))");
    }

    // "if fewer than the limit of made ones are there for the procedure, a new one"

    private static void limitOfMade() {
        for (int limit = 1; limit <= 4; limit++) {
            for (int known = 1; known <= 6; known++) {
                String tree = "(n 0)";
                for (int i = known; i > 0; i--) {
                    tree = "(+ (c 1 (n " + i + ") (p 1)) " + tree + ")";
                }
                Bindtime x = made(7, 0, limit, tree, "(p 0)");
                String name = known + " known ones, a limit of " + limit;
                Check.same(name, x.procedures(), 1 + (known <= limit ? known : limit + 1));
                for (int i = 1; i <= Math.min(known, limit); i++) {
                    Check.same(name + ", known " + i, x.known(i, 0), i);
                }
                if (known > limit) {
                    Check.same(name + ", the general one", Build.outcome(() -> x.known(x.procedures() - 1, 0)),
                            "NoSuchElementException");
                }
            }
        }
    }

    // "otherwise, the one for which nothing is known, which is new if there is none, and also the known values are parts then"

    private static void theGeneralOne() {
        String sum = "(- (p 0) (p 1))";
        looks("there already, and one of the limit", made(7, 0, 1, "(+ (c 1 (p 1) (i)) (c 1 (n 2) (p 1)))", sum),
                "(+ (c 1 (p 0) (i)) (c 1 (n 2) (p 0)))", "(- (p 0) (p 1))");
        looks("there already, and a limit of 2", made(7, 0, 2, "(+ (c 1 (p 1) (i)) (+ (c 1 (n 2) (p 1)) (c 1 (n 3) (n 4))))", sum),
                "(+ (c 1 (p 0) (i)) (+ (c 2 (p 0)) (c 1 (n 3) (n 4))))", "(- (p 0) (p 1))", "(- (n 2) (p 0))");
        looks("beyond the limit", made(7, 0, 1, "(+ (c 1 (n 2) (p 1)) (+ (c 1 (n 3) (p 1)) (c 1 (p 1) (n 4))))", sum),
                "(+ (c 1 (p 0)) (+ (c 2 (n 3) (p 0)) (c 2 (p 0) (n 4))))", "(- (n 2) (p 0))", "(- (p 0) (p 1))");
        looks("nothing is known, beyond the limit", made(7, 0, 1, "(+ (c 1 (n 2) (p 1)) (c 1 (p 1) (i)))", sum),
                "(+ (c 1 (p 0)) (c 2 (p 0) (i)))", "(- (n 2) (p 0))", "(- (p 0) (p 1))");
        looks("the same one beyond the limit", made(7, 0, 1, "(+ (c 1 (n 2) (p 1)) (+ (c 1 (n 3) (p 1)) (c 1 (n 2) (p 1))))", sum),
                "(+ (c 1 (p 0)) (+ (c 2 (n 3) (p 0)) (c 1 (p 0))))", "(- (n 2) (p 0))", "(- (p 0) (p 1))");
        looks("first known and second known are not the same", made(7, 0, 3, "(+ (c 1 (n 2) (p 1)) (c 1 (p 1) (n 2)))", sum),
                "(+ (c 1 (p 0)) (c 2 (p 0)))", "(- (n 2) (p 0))", "(- (p 0) (n 2))");
        looks("both known and one known are not the same", made(7, 0, 3, "(+ (c 1 (n 2) (n 0)) (c 1 (n 2) (p 1)))", sum),
                "(+ (c 1) (c 2 (p 0)))", "(n 2)", "(- (n 2) (p 0))");
        looks("known to be 0 and late are not the same", made(7, 0, 3, "(+ (c 1 (n 0) (p 1)) (c 1 (p 1) (p 1)))", sum),
                "(+ (c 1 (p 0)) (c 2 (p 0) (p 0)))", "(- (n 0) (p 0))", "(- (p 0) (p 1))");
        looks("other procedures have limits of their own", made(7, 0, 1, "(+ (c 1 (n 2) (p 1)) (c 2 (n 2) (p 1)))", sum, sum),
                "(+ (c 1 (p 0)) (c 2 (p 0)))", "(- (n 2) (p 0))", "(- (n 2) (p 0))");
    }

    // The made procedure 0 is one of those for the procedure 0.

    private static void madeOfZero() {
        String again = "(? (p 1) (c 0 (p 0) (- (p 1) (n 1))) (p 0))";
        looks("found again", made(7, 0, 1, again), "(? (p 0) (c 0 (- (p 0) (n 1))) (n 7))");
        String other = "(? (p 1) (c 0 (+ (p 0) (n 1)) (- (p 1) (n 1))) (p 0))";
        looks("counts for the limit", made(7, 0, 1, other), "(? (p 0) (c 1 (n 8) (- (p 0) (n 1))) (n 7))",
                "(? (p 1) (c 1 (+ (p 0) (n 1)) (- (p 1) (n 1))) (p 0))");
    }

    // "Procedures that wait are made in the order in which they were found"

    private static void orderOfWaiting() {
        Bindtime x = Build.with("(+ (c 3 (p 1) (n 1)) (c 1 (p 1) (n 1)))", "(c 4 (p 0) (p 0))", "(i)", "(c 2 (p 0) (p 0))", "(i)");
        x.begin(0);
        int[] waiting = {2, 2, 2, 1, 0};
        int[] originals = {0, 3, 1, 2, 4};
        for (int due : waiting) {
            Check.same("waiting", x.make(), due);
        }
        for (int i = 0; i < 5; i++) {
            Check.same("in the order in which they were found " + i, x.original(i), originals[i]);
        }
    }

    // "The making fails if a new made procedure would be the 13th one"

    /** Calls of a procedure for so many known numbers. */
    private static String calls(int procedure, int count, String last) {
        String tree = last;
        for (int i = count; i > 0; i--) {
            tree = "(+ (c " + procedure + " (n " + i + ") (p 1)) " + tree + ")";
        }
        return tree;
    }

    private static void thirteenth() {
        String four = calls(1, 4, calls(2, 4, "(i)"));
        Bindtime twelve = made(7, 0, 4, calls(1, 4, calls(2, 4, calls(3, 3, "(i)"))), "(p 0)", "(p 0)", "(p 0)");
        Check.same("12 made procedures", twelve.procedures(), 12);
        Check.same("12 made procedures, state", twelve.state(), 'd');
        Check.same("12 made procedures, the last one", twelve.original(11), 3);
        Check.same("12 made procedures, like", twelve.isConsistent(), true);
        Bindtime thirteen = made(7, 0, 4, calls(1, 4, calls(2, 4, calls(3, 4, "(i)"))), "(p 0)", "(p 0)", "(p 0)");
        fails("the 13th made procedure", thirteen);
        Check.same("the 13th made procedure is none", thirteen.procedures(), 12);
        Bindtime same = made(7, 0, 4, calls(1, 4, calls(2, 4, calls(3, 3, "(c 3 (n 1) (i))"))), "(p 0)", "(p 0)", "(p 0)");
        Check.same("the same one once more is no 13th", same.state(), 'd');
        Bindtime last = Build.with("(+ " + four + " (c 3 (p 1) (p 1)))", "(p 0)", "(p 0)", "(+ (c 4 (n 1) (i)) (c 4 (n 2) (i)))", "(c 0 (p 0) (i))");
        last.setAhead(0);
        last.setMade(4);
        last.begin(0);
        Check.same("10 found by the first one", last.make(), 9);
        int made = 1 + last.makeAll();
        Check.same("fails by one that is made later", last.state(), 'f');
        Check.same("those before it are made", made, 10);
        Check.same("12 are there", last.procedures(), 12);
    }

    // Making has no depth of its own: calls that are carried out ahead may stand deeper than 200 nodes.

    private static String around(int count, String tree) {
        String result = tree;
        for (int i = 0; i < count; i++) {
            result = "(o " + result + ")";
        }
        return result;
    }

    private static void deepMaking() {
        for (int more = 0; more < 2; more++) {
            // 6 calls of 33 nodes, those of the procedure 0, and the innermost one.
            Bindtime x = made(7, 6, 3, around(1 + more, "(c 1 (n 5) (p 1))"), around(33, "(? (p 0) (c 1 (- (p 0) (n 1)) (p 1)) (i))"));
            Check.same("deep, nodes", x.sizeOf(0), 200 + more);
            Check.same("made, inside of " + (199 + more), x.run(true, 0, 0, 2000), more == 0 ? 'e' : 'l');
            Check.same("made, inside of " + (199 + more) + ", steps", x.steps(), 200);
            Check.same("made, inside of " + (199 + more) + ", outputs", x.outputs(), more == 0 ? 199 : 0);
            Check.same("made, inside of " + (199 + more) + ", like", x.isLike(0), true);
        }
        Bindtime x = made(6, 6, 3, around(41, "(? (p 0) (c 0 (- (p 0) (n 1)) (p 1)) (i))"));
        Check.same("deeper than any run", x.sizeOf(0), 288);
        Check.same("deeper than any run, over", x.run(true, 0, 0, 2000), 'l');
        Check.same("deeper than any run, steps", x.steps(), 200);
    }

    // "if a node is to be made, and 600 were, of the same made procedure, those counted of which nothing stands in the end"

    /** So many nodes that are known, although it has few different ones. */
    private static String known(int count) {
        if (count == 1) {
            return "(n 1)";
        }
        if (count == 2) {
            return "(s 0 (n 1))";
        }
        int half = (count - 1) / 2;
        return count % 2 == 1 ? "(* " + known(half) + " " + known(half) + ")" : "(s 0 " + known(count - 1) + ")";
    }

    private static void sixHundred() {
        looks("599 nodes", made(7, known(599)), "(n 1)");
        looks("600 nodes", made(7, known(600)), "(n 1)");
        fails("601 nodes", made(7, known(601)));
        fails("602 nodes", made(7, known(602)));
        // Parts of '?' that are not made do not count; those that are made do, though nothing of them stands.
        looks("600 nodes and a part that is not made", made(7, "(? (p 0) " + known(598) + " " + known(599) + ")"), "(n 1)");
        fails("601 nodes and a part that is not made", made(7, "(? (p 0) " + known(599) + " (n 1))"));
        looks("both parts of a late '?', 600 nodes", made(7, "(? (p 1) " + known(299) + " " + known(299) + ")"), "(n 1)");
        fails("both parts of a late '?', 601 nodes", made(7, "(? (p 1) " + known(299) + " " + known(300) + ")"));
        // Nodes of calls that are carried out ahead are those of the same made procedure.
        looks("600 nodes with those of a call", made(7, "(c 1 (n 1) (p 1))", known(597)), "(n 1)");
        fails("601 nodes with those of a call", made(7, "(c 1 (n 1) (p 1))", known(598)));
    }

    private static void sixHundredEach() {
        looks("600 nodes in each of two", made(7, "(; " + known(596) + " (c 1 (p 1) (p 0)))", known(600)),
                "(c 1 (p 0))", "(n 1)");
        Bindtime second = made(7, "(; " + known(596) + " (c 1 (p 1) (p 0)))", known(601));
        fails("601 nodes in the second one", second);
        Check.same("601 nodes in the second one, it was found", second.procedures(), 2);
        Bindtime first = made(7, "(; " + known(597) + " (c 1 (p 1) (p 0)))", known(600));
        fails("601 nodes in the first one", first);
        Check.same("601 nodes in the first one, none was found", first.procedures(), 1);
    }

    // "if, when one is done, those that are done have more than 300 nodes in all, where a node counts as often as it stands"

    /** So many late nodes, although it has few different ones. */
    private static String late(int count) {
        if (count == 1) {
            return "(i)";
        }
        int half = (count - 1) / 2;
        return count % 2 == 1 ? "(+ " + late(half) + " " + late(half) + ")" : "(o " + late(count - 1) + ")";
    }

    private static void threeHundred() {
        for (int count : new int[] {299, 300, 301, 302, 600}) {
            Bindtime x = made(7, late(count));
            Check.same(count + " nodes", x.state(), count <= 300 ? 'd' : 'f');
            if (count <= 300) {
                Check.same(count + " nodes, size", x.sizeOf(0), count);
                Check.same(count + " nodes, mean", x.meanSize(), (double) count);
                Check.same(count + " nodes, like", x.isConsistent(), true);
            }
        }
        // 'p' and 'x' of a number stand as often as they are used.
        looks("a number that is used twice counts twice", made(7, "(c 1 (n 1) (i))", "(+ (p 1) (+ (p 1) (p 1)))"),
                "(; (s 4 (i)) (+ (x 4) (+ (x 4) (x 4))))");
        Bindtime found = made(7, "(+ (c 1 (p 1) (p 1)) " + late(299) + ")", "(n 1)");
        fails("more than 300 with a call", found);
        Check.same("what it called was found", found.procedures(), 2);
    }

    private static void threeHundredOfMany() {
        for (int count : new int[] {99, 100, 101}) {
            // 3 and 97 nodes, and then 100, and then as many as are told.
            Bindtime x = Build.with("(; " + late(95) + " (c 1 (p 1) (p 0)))", "(; " + late(97) + " (c 2 (p 0) (p 0)))", late(count));
            x.setAhead(0);
            x.begin(7);
            Check.same("first of three", x.make(), 1);
            Check.same("second of three", x.make(), 1);
            int due = count + 98 + 101 <= 300 ? 0 : -1;
            Check.same(count + 199 + " nodes", x.make(), due);
            Check.same(count + 199 + " nodes, state", x.state(), due == 0 ? 'd' : 'f');
            if (due == 0) {
                Check.same(count + 199 + " nodes, mean", x.meanSize(), (count + 199) / 3.0);
            }
        }
        // Those that wait do not count yet, and what is found by one that fails is found.
        Bindtime x = Build.with("(+ (c 1 (p 1) (p 1)) (c 2 (p 1) (p 1)))", late(294), late(2));
        x.begin(7);
        Check.same("7 nodes", x.make(), 2);
        Check.same("7 and 294 nodes", x.make(), -1);
        Bindtime y = Build.with("(+ (c 1 (p 1) (p 1)) (c 2 (p 1) (p 1)))", late(292), late(1));
        y.begin(7);
        Check.same("7 and 292 and 1 nodes", y.makeAll(), 3);
        Check.same("300 nodes", y.meanSize(), 100.0);
        Bindtime z = Build.with("(+ (c 1 (p 1) (p 1)) (c 2 (p 1) (p 1)))", late(292), late(2));
        z.begin(7);
        Check.same("7 and 292 and 2 nodes", z.makeAll(), 2);
        Check.same("301 nodes", z.state(), 'f');
    }

    // "A node that is made gives a row of nodes that stand ahead", which has no bound but the limits of nodes

    /** So many inputs that are read one after the other, although it has few different nodes. */
    private static String inRow(int count) {
        return count == 1 ? "(i)" : "(; " + inRow(count / 2) + " " + inRow(count - count / 2) + ")";
    }

    /** So many late nodes, an odd number, of which nothing stands in a row. */
    private static String idle(int count) {
        int half = (count - 1) / 2;
        return count == 1 ? "(r 0)" : "(+ " + idle(half - (half + 1) % 2) + " " + idle(count - 1 - half + (half + 1) % 2) + ")";
    }

    private static void longRows() {
        for (int count : new int[] {32, 33, 34, 149, 150}) {
            Bindtime x = made(7, inRow(count));
            Check.same("row of " + count + ", size", x.sizeOf(0), 2 * count - 1);
            Check.same("row of " + count + ", inputs", x.countOf(0, 'i'), count);
            Check.same("row of " + count + ", ended", x.run(true, 0, 0, 2000), 'e');
            Check.same("row of " + count + ", steps", x.steps(), 2 * count - 1);
        }
        fails("row of 151", made(7, inRow(151)));
        Bindtime x = made(7, "(; " + inRow(130) + " (; " + idle(301) + " (o (p 1))))");
        Check.same("a row beside idle nodes, size", x.sizeOf(0), 262);
        Check.same("a row beside idle nodes, inputs", x.countOf(0, 'i'), 130);
        Check.same("a row beside idle nodes, cells", x.countOf(0, 'r'), 0);
        x.run(true, 0, 8, 2000);
        Check.same("a row beside idle nodes, what stands behind", Build.outcome(() -> x.output(0)), 8);
    }

    // "has as many slots as are needed"

    private static void slotsAsManyAsNeeded() {
        String sum = "(+ (+ (x 0) (x 1)) (+ (x 2) (x 3)))";
        Bindtime x = made(7, "(c 1 (p 1) (p 1))", "(? (p 0) (; (; (s 0 (p 0)) (s 1 (p 0))) (; (; (s 2 (p 0)) (s 3 (p 0))) "
                + "(+ (+ (i) (; (o (n 1)) (c 1 (- (p 0) (n 1)) (p 1)))) " + sum + "))) (n 0))");
        x.clearInputs();
        for (int i = 1; i <= 8; i++) {
            x.addInput(i);
        }
        Check.same("five slots in ten procedures", x.run(true, 0, 8, 2000), 'e');
        Check.same("five slots in ten procedures, result", x.result(), 36 + 4 * 36);
        // Four late ones, a settled one, and in the other part of '?' the four that are known there.
        Check.same("five slots in ten procedures, 's'", x.countOf(1, 's'), 4 + 1 + 4);
        Check.same("five slots in ten procedures, like", x.isLike(8), true);
    }

    // "of each one that is being carried out ahead in it": behind a call, nothing of its slots is carried out

    private static void slotsOfCallsThatAreDone() {
        looks("ahead of 't'", made(7, "(; (c 1 (n 1) (p 1)) (t (n 1) (n 2)))", "(s 0 (n 5))"), ZEROS + "(t (n 1) (n 2))))))");
        looks("in a 't'", made(7, "(t (c 1 (n 1) (p 1)) (c 1 (n 1) (p 1)))", "(s 0 (n 5))"), ZEROS + "(t (n 5) (n 5))))))");
        looks("in one part of '?'", made(7, "(? (p 1) (c 1 (n 1) (p 1)) (n 6))", "(s 0 (n 5))"), "(? (p 0) (n 5) (n 6))");
        looks("in both parts of '?'", made(7, "(? (p 1) (c 1 (n 5) (p 1)) (c 1 (n 6) (p 1)))", "(s 0 (p 0))"),
                "(? (p 0) (n 5) (n 6))");
        looks("slots of the call are not those of its caller",
                made(7, "(; (s 0 (p 1)) (+ (c 1 (p 0) (p 1)) (x 0)))", "(; (s 0 (n 5)) (t (n 1) (n 1)))"),
                "(; (s 0 (p 0)) (; (s 1 (n 0)) (; (s 2 (n 0)) (; (s 3 (n 0)) (; (s 4 (n 5)) (; (s 5 (n 0)) (; (s 6 (n 0)) "
                        + "(; (s 7 (n 0)) (+ (t (n 1) (n 1)) (x 0))))))))))");
        looks("a call without a body has none", made(7, "(; (c 1 (n 1) (n 2)) (s 0 (n 5)))"), "(n 5)");
    }

    // "one that was made before is gone", also one that failed within parts that are not done

    private static void afterOneThatFailed() {
        String[] failing = {"(; (o (n 1)) (t (; (w 0 (n 5)) (; (s 1 (n 4)) " + known(601) + ")) (n 1)))",
            "(; (o (n 1)) (; (w 0 (n 5)) (? (p 1) (+ (i) (; (o (n 2)) " + known(601) + ")) (n 1))))",
            "(c 1 (n 1) (; (w 0 (n 5)) (; (w 3 (n 5)) (c 1 (n 2) (p 1)))))"};
        for (String tree : failing) {
            Bindtime x = Build.with(tree, "(+ (p 1) (; (o (p 0)) (; (s 1 (n 4)) (c 1 (p 0) (p 1)))))");
            x.setAhead(6);
            x.setMade(1);
            if (tree.startsWith("(c")) {
                new Trees(x).body(1, "(t (; (s 1 (n 4)) " + known(601) + ") (n 1))");
            }
            x.begin(7);
            Check.same("fails " + tree, x.makeAll(), 0);
            fails("fails " + tree, x);
            new Trees(x).body(0, "(; (s 1 (n 3)) (; (/ (i) (p 1)) (+ (r 0) (x 1))))");
            x.begin(7);
            Check.same("after one that failed", x.makeAll(), 1);
            looks("after " + tree, x, "(; (/ (i) (p 0)) (+ (r 0) (n 3)))");
        }
    }
}
