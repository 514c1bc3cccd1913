import java.util.NoSuchElementException;

/** Each promise by its number: ordinary calls, the edges that the document names, and calls that are refused. */
public final class PromiseTest {
    private static final Class<IllegalStateException> STATE = IllegalStateException.class;
    private static final Class<IllegalArgumentException> ARGUMENT = IllegalArgumentException.class;
    private static final Class<IndexOutOfBoundsException> INDEX = IndexOutOfBoundsException.class;
    private static final Class<NoSuchElementException> ELEMENT = NoSuchElementException.class;
    private static final Class<UnsupportedOperationException> UNSUPPORTED = UnsupportedOperationException.class;
    private static final Class<ArithmeticException> ARITHMETIC = ArithmeticException.class;

    public static void main(String[] args) {
        newObject();
        addNode();
        addNodeRefuses();
        setBody();
        inputs();
        limits();
        isEarly();
        begin();
        make();
        makeAll();
        state();
        found();
        sizes();
        runKinds();
        runCellsAndThrown();
        runOver();
        run();
        lastRun();
        allSteps();
        isLike();
        gain();
        meanSize();
        isConsistent();
        Check.end("PromiseTest");
    }

    // 1

    private static void newObject() {
        Bindtime x = new Bindtime();
        Check.same("1 state", x.state(), '-');
        Check.same("1 steps of all runs", x.allSteps(), 0L);
        Check.same("1 consistent", x.isConsistent(), true);
        Check.same("1 no inputs", x.clearInputs(), 0);
        for (int i = 0; i < 5; i++) {
            Check.same("1 no body " + i, x.setBody(i, -1), -1);
        }
        Check.refuses("1 no node 0", INDEX, () -> x.setBody(0, 0));
        Check.same("1 first node", x.addNode('i', 0, 0, 0), 0);
    }

    // 2

    private static void addNode() {
        Bindtime x = new Bindtime();
        int count = 0;
        int[][] edges = {{'n', -999, 0, 0}, {'n', 999, 0, 0}, {'p', 0, 0, 0}, {'p', 1, 0, 0}, {'x', 0, 0, 0}, {'x', 3, 0, 0},
            {'s', 3, 0, 0}, {'r', 3, 0, 0}, {'w', 3, 7, 0}, {'+', 8, 0, 0}, {'-', 0, 9, 0}, {'*', 0, 0, 0}, {'<', 0, 0, 0},
            {'=', 0, 0, 0}, {'/', 0, 0, 0}, {'?', 14, 13, 12}, {';', 0, 0, 0}, {'c', 4, 16, 16}, {'c', 0, 0, 0},
            {'i', 0, 0, 0}, {'o', 19, 0, 0}, {'d', 20, 0, 0}, {'t', 21, 21, 0}};
        for (int[] edge : edges) {
            Check.same("2 " + (char) edge[0], x.addNode((char) edge[0], edge[1], edge[2], edge[3]), count);
            count++;
        }
        for (; count < 48; count++) {
            Check.same("2 more", x.addNode('n', count, 0, 0), count);
        }
        Check.refuses("2 the 49th", STATE, () -> x.addNode('n', 1, 0, 0));
        Check.refuses("2 missing part comes first", INDEX, () -> x.addNode('o', 48, 0, 0));
        Check.refuses("2 no such kind comes first", ARGUMENT, () -> x.addNode('z', 48, 0, 0));
    }

    private static void addNodeRefuses() {
        Bindtime x = new Bindtime();
        x.addNode('n', 1, 0, 0);
        int[][] arguments = {{'z', 0, 0, 0}, {0, 0, 0, 0}, {'N', 0, 0, 0}, {65535, 0, 0, 0}, {'n', -1000, 0, 0},
            {'n', 1000, 0, 0}, {'n', 1, 1, 0}, {'n', 1, 0, -1}, {'p', 2, 0, 0}, {'p', -1, 0, 0}, {'x', 4, 0, 0},
            {'x', -1, 0, 0}, {'s', 4, 0, 0}, {'s', 4, 9, 0}, {'s', 0, 0, 1}, {'r', 4, 0, 0}, {'r', 0, 1, 0},
            {'w', -1, 0, 0}, {'w', 0, 0, 1}, {'+', 0, 0, 1}, {'/', 9, 0, 1}, {';', 0, 0, 1}, {'t', 0, 0, 1},
            {'c', 5, 0, 0}, {'c', -1, 9, 9}, {'i', 1, 0, 0}, {'i', 0, 1, 0}, {'o', 0, 1, 0}, {'d', 0, 0, 1},
            {'n', Integer.MIN_VALUE, 0, 0}, {'x', Integer.MAX_VALUE, 0, 0}};
        for (int[] a : arguments) {
            Check.refuses("2 argument " + (char) a[0] + a[1] + " " + a[2] + " " + a[3], ARGUMENT,
                    () -> x.addNode((char) a[0], a[1], a[2], a[3]));
        }
        int[][] parts = {{'s', 0, 1, 0}, {'w', 0, -1, 0}, {'+', 1, 0, 0}, {'+', 0, 1, 0}, {'?', 0, 0, 1}, {'?', 0, 1, 0},
            {'?', -1, 0, 0}, {'c', 0, 1, 0}, {'c', 0, 0, 1}, {'o', 1, 0, 0}, {'d', -1, 0, 0}, {'t', 0, 1, 0},
            {'o', Integer.MIN_VALUE, 0, 0}, {'o', Integer.MAX_VALUE, 0, 0}};
        for (int[] a : parts) {
            Check.refuses("2 part " + (char) a[0] + a[1] + " " + a[2] + " " + a[3], INDEX,
                    () -> x.addNode((char) a[0], a[1], a[2], a[3]));
        }
        Check.same("2 nothing was added", x.addNode('n', 1, 0, 0), 1);
    }

    // 3

    private static void setBody() {
        Bindtime x = new Bindtime();
        x.addNode('n', 7, 0, 0);
        x.addNode('n', 8, 0, 0);
        Check.same("3 first body", x.setBody(0, 1), -1);
        Check.same("3 next body", x.setBody(0, 0), 1);
        Check.same("3 none", x.setBody(0, -1), 0);
        Check.same("3 none before", x.setBody(4, 0), -1);
        Check.refuses("3 no procedure 5", INDEX, () -> x.setBody(5, 0));
        Check.refuses("3 no procedure -1", INDEX, () -> x.setBody(-1, 0));
        Check.refuses("3 no node 2", INDEX, () -> x.setBody(0, 2));
        Check.refuses("3 no node -2", INDEX, () -> x.setBody(0, -2));
        Check.same("3 refused ones changed nothing", x.setBody(0, 1), -1);
        x.begin(0);
        x.makeAll();
        x.setBody(0, 0);
        x.run(true, 0, 0, 10);
        Check.same("3 what was made stays", x.result(), 8);
    }

    // 4 and 5

    private static void inputs() {
        Bindtime x = Build.with("(; (i) (i))");
        for (int i = 1; i <= 8; i++) {
            Check.same("4 number of inputs", x.addInput(i * 11), i);
        }
        Check.refuses("4 the 9th", STATE, () -> x.addInput(1));
        x.run(false, 0, 0, 10);
        Check.same("4 second input", x.result(), 22);
        Check.same("5 there were 8", x.clearInputs(), 8);
        Check.same("5 there are none", x.clearInputs(), 0);
        x.run(false, 0, 0, 10);
        Check.same("5 no inputs", x.result(), 0);
        Check.same("4 from the start again", x.addInput(5), 1);
        x.run(false, 0, 0, 10);
        Check.same("4 no second input", x.result(), 0);
    }

    // 6 and 7

    private static void limits() {
        Bindtime x = new Bindtime();
        Check.same("6 at first", x.setAhead(0), 4);
        Check.same("6 then", x.setAhead(6), 0);
        Check.refuses("6 too many", ARGUMENT, () -> x.setAhead(7));
        Check.refuses("6 too few", ARGUMENT, () -> x.setAhead(-1));
        Check.same("6 unchanged", x.setAhead(1), 6);
        Check.same("7 at first", x.setMade(1), 3);
        Check.same("7 then", x.setMade(4), 1);
        Check.refuses("7 too many", ARGUMENT, () -> x.setMade(5));
        Check.refuses("7 too few", ARGUMENT, () -> x.setMade(0));
        Check.same("7 unchanged", x.setMade(2), 4);
    }

    // 8

    private static void early(String name, Bindtime x, String due) {
        StringBuilder got = new StringBuilder();
        for (int i = 0; i < 10; i++) {
            got.append(x.isEarly(i / 2, i % 2) ? '1' : '0');
        }
        Check.same("8 " + name, got.toString(), due);
    }

    private static void isEarly() {
        early("nothing called", new Bindtime(), "1011111111");
        early("sums of p of the set", Build.with("(c 1 (+ (p 0) (n 1)) (* (p 0) (p 1)))"), "1010111111");
        early("other parts are not early", Build.with("(; (c 1 (/ (p 0) (n 1)) (n 1)) (c 2 (s 0 (n 1)) (; (n 1) (n 1))))"),
                "1001001111");
        early("a chain of calls", Build.with("(c 1 (p 1) (p 0))", "(c 2 (p 0) (p 1))", "(c 3 (p 0) (p 1))", "(c 4 (p 0) (p 1))"),
                "1001010101");
        early("a call of itself", Build.with("(c 0 (- (p 0) (n 1)) (n 3))"), "1011111111");
        early("a call of itself with what is late", Build.with("(c 0 (p 1) (n 3))"), "0011111111");
        early("a procedure that nobody calls", Build.with("(n 1)", "(c 1 (i) (p 0))"), "1000111111");
        early("two that give one another", Build.with("(n 1)", "(c 2 (p 0) (p 1))", "(c 1 (p 0) (i))"), "1010101111");
        Bindtime x = Build.with("(n 1)");
        int call = new Trees(x).add("(c 1 (i) (i))");
        early("a call that stands in no body", x, "1011111111");
        x.setBody(3, call);
        early("a call as a body", x, "1000111111");
        early("a node in two bodies", Build.with("(c 1 (p 0) (p 0))", "(n 2)", "(c 1 (p 0) (p 0))", "(c 2 (i) (n 1))"), "1000011111");
        early("inside of other nodes", Build.with("(? (t (n 1) (o (c 3 (i) (n 2)))) (d (n 1)) (w 0 (c 2 (n 1) (r 0))))"),
                "1011100111");
        Check.refuses("8 no procedure 5", INDEX, () -> x.isEarly(5, 0));
        Check.refuses("8 no procedure -1", INDEX, () -> x.isEarly(-1, 1));
        Check.refuses("8 no number 2", INDEX, () -> x.isEarly(0, 2));
        Check.refuses("8 no number -1", INDEX, () -> x.isEarly(1, -1));
    }

    // 9

    private static void begin() {
        Bindtime x = new Bindtime();
        int node = new Trees(x).add(Build.POWER);
        Check.refuses("9 no body", STATE, () -> x.begin(1));
        Check.same("9 refused", x.state(), '-');
        x.setBody(0, node);
        Check.same("9 one waits", x.begin(8), 1);
        int other = new Trees(x).add("(n 3)");
        x.setBody(0, other);
        x.setAhead(0);
        x.setMade(1);
        x.makeAll();
        Trees.looksLike("9 bodies and limits of the beginning", x, 0,
                "(* (p 0) (* (p 0) (* (p 0) (* (p 0) (* (p 0) (c 1 (p 0)))))))");
        Check.same("9 known for the next one", x.known(1, 0), 3);
        Check.same("9 begins again", x.begin(-6), 1);
        Check.same("9 the one before is gone", x.procedures(), 1);
        Check.same("9 the early number", x.known(0, 0), -6);
        Check.refuses("9 the one before is gone, sizes", STATE, () -> x.sizeOf(0));
        x.makeAll();
        Trees.looksLike("9 new bodies", x, 0, "(n 3)");
        x.setBody(0, -1);
        Check.refuses("9 no body again", STATE, () -> x.begin(1));
        Check.same("9 refused, still done", x.state(), 'd');
        Check.same("9 refused, early number", x.known(0, 0), -6);
    }

    // 10

    private static void make() {
        Bindtime x = Build.with(Build.UP);
        Check.refuses("10 not begun", STATE, x::make);
        x.begin(0);
        Check.same("10 first", x.make(), 1);
        Check.same("10 second", x.make(), 1);
        Check.same("10 third finds the general one", x.make(), 1);
        Check.same("10 general one", x.make(), 0);
        Check.refuses("10 done", STATE, x::make);
        Bindtime y = Build.failing();
        Check.same("10 finds 3", y.make(), 3);
        int waiting = 3;
        for (int i = 0; i < 12 && waiting >= 0; i++) {
            waiting = y.make();
        }
        Check.same("10 fails", waiting, -1);
        Check.refuses("10 has failed", UNSUPPORTED, y::make);
        Check.same("10 still failed", y.state(), 'f');
        y.begin(1);
        Check.same("10 begun again", y.make(), 3);
    }

    // 11

    private static void makeAll() {
        Bindtime x = Build.with(Build.UP);
        Check.refuses("11 not begun", STATE, x::makeAll);
        x.begin(0);
        x.make();
        Check.same("11 all but one", x.makeAll(), 3);
        Check.refuses("11 done", STATE, x::makeAll);
        Bindtime y = Build.failing();
        int made = 0;
        while (y.make() >= 0) {
            made++;
        }
        Check.same("11 some are made", made > 1, true);
        Bindtime z = Build.failing();
        Check.same("11 without the one that fails", z.makeAll(), made);
        Check.same("11 failed", z.state(), 'f');
        Check.refuses("11 has failed", UNSUPPORTED, z::makeAll);
    }

    // 12

    private static void state() {
        Bindtime x = Build.with(Build.UP);
        Check.same("12 none begun", x.state(), '-');
        x.begin(0);
        Check.same("12 begun", x.state(), 'w');
        x.make();
        Check.same("12 one waits", x.state(), 'w');
        x.makeAll();
        Check.same("12 done", x.state(), 'd');
        x.begin(0);
        Check.same("12 begun again", x.state(), 'w');
        Bindtime y = Build.failing();
        y.makeAll();
        Check.same("12 failed", y.state(), 'f');
    }

    // 13 to 15

    private static void found() {
        Bindtime x = Build.with("(; (c 1 (p 1) (n 4)) (c 2 (n 6) (n -3)))", "(p 0)", "(p 0)");
        x.setAhead(0);
        Check.refuses("13 not begun", STATE, x::procedures);
        Check.refuses("14 not begun", STATE, () -> x.original(9));
        Check.refuses("15 not begun", STATE, () -> x.known(9, 9));
        x.begin(-2);
        Check.same("13 begun", x.procedures(), 1);
        Check.refuses("14 not found yet", INDEX, () -> x.original(1));
        x.make();
        Check.same("13 those that wait, too", x.procedures(), 3);
        Check.same("14 first", x.original(0), 0);
        Check.same("14 second", x.original(1), 1);
        Check.same("14 third", x.original(2), 2);
        Check.same("15 early number", x.known(0, 0), -2);
        Check.refuses("15 late number", ELEMENT, () -> x.known(0, 1));
        Check.refuses("15 late first number", ELEMENT, () -> x.known(1, 0));
        Check.same("15 known second number", x.known(1, 1), 4);
        Check.same("15 both, first", x.known(2, 0), 6);
        Check.same("15 both, second", x.known(2, 1), -3);
        for (int wrong : new int[] {-1, 3, Integer.MIN_VALUE, Integer.MAX_VALUE}) {
            Check.refuses("14 no made procedure " + wrong, INDEX, () -> x.original(wrong));
            Check.refuses("15 no made procedure " + wrong, INDEX, () -> x.known(wrong, 0));
            Check.refuses("15 no number " + wrong, INDEX, () -> x.known(0, wrong));
        }
        Check.refuses("15 no number 2", INDEX, () -> x.known(0, 2));
    }

    // 16 and 17

    private static void sizes() {
        Bindtime x = Build.with("(; (c 1 (p 1) (n 4)) (o (p 0)))", "(+ (p 0) (* (p 1) (p 0)))");
        Check.refuses("16 nothing made", STATE, () -> x.sizeOf(0));
        Check.refuses("17 nothing made", STATE, () -> x.countOf(0, 'n'));
        x.begin(2);
        x.make();
        Check.refuses("16 not done", STATE, () -> x.sizeOf(9));
        Check.refuses("17 not done", STATE, () -> x.countOf(9, 'n'));
        x.make();
        Trees.looksLike("16 first", x, 0, "(; (c 1 (p 0)) (; (o (n 2)) (n 2)))");
        Trees.looksLike("17 second", x, 1, "(+ (p 0) (* (n 4) (p 0)))");
        for (char none : new char[] {'z', 0, 'N', 65535, 233}) {
            Check.same("17 no kind", x.countOf(0, none), 0);
        }
        for (int wrong : new int[] {-1, 2, Integer.MIN_VALUE, Integer.MAX_VALUE}) {
            Check.refuses("16 no made procedure " + wrong, INDEX, () -> x.sizeOf(wrong));
            Check.refuses("17 no made procedure " + wrong, INDEX, () -> x.countOf(wrong, 'n'));
        }
        Bindtime y = Build.failing();
        y.makeAll();
        Check.refuses("16 failed", STATE, () -> y.sizeOf(0));
        Check.refuses("17 failed", STATE, () -> y.countOf(0, 'n'));
        Check.refuses("27 failed", STATE, y::meanSize);
    }

    // 18: what each kind gives

    private static void gives(String tree, int due, int steps, String out) {
        Bindtime x = Build.with(tree, "(; (s 0 (+ (x 0) (p 0))) (- (x 0) (p 1)))");
        x.addInput(30);
        x.addInput(40);
        Check.same("18 " + tree, x.run(false, 7, -2, 2000), 'e');
        Check.same("19 " + tree, x.result(), due);
        Check.same("20 " + tree, x.steps(), steps);
        StringBuilder put = new StringBuilder();
        for (int i = 0; i < x.outputs(); i++) {
            put.append(x.output(i)).append(' ');
        }
        Check.same("22 and 23 " + tree, put.toString(), out);
    }

    private static void runKinds() {
        gives("(n -999)", -999, 1, "");
        gives("(p 0)", 7, 1, "");
        gives("(p 1)", -2, 1, "");
        gives("(x 3)", 0, 1, "");
        gives("(r 3)", 0, 1, "");
        gives("(; (s 1 (n 4)) (+ (x 1) (x 0)))", 4, 6, "");
        gives("(+ (s 1 (n 4)) (s 1 (n 5)))", 9, 5, "");
        gives("(; (w 1 (n 4)) (+ (r 1) (r 0)))", 4, 6, "");
        gives("(- (p 0) (p 1))", 9, 3, "");
        gives("(* (p 0) (p 1))", -14, 3, "");
        gives("(< (p 1) (p 0))", 1, 3, "");
        gives("(< (p 0) (p 0))", 0, 3, "");
        gives("(= (p 0) (p 0))", 1, 3, "");
        gives("(= (p 1) (p 0))", 0, 3, "");
        gives("(/ (p 0) (p 1))", -3, 3, "");
        gives("(? (p 1) (p 0) (i))", 7, 3, "");
        gives("(? (x 1) (p 0) (i))", 30, 3, "");
        gives("(; (i) (i))", 40, 3, "");
        gives("(+ (i) (+ (i) (i)))", 70, 5, "");
        gives("(- (o (n 1)) (o (n 2)))", -1, 5, "1 2 ");
        gives("(t (p 0) (i))", 7, 2, "");
        gives("(t (d (o (n 5))) (+ (r 3) (n 1)))", 6, 7, "5 ");
        gives("(t (/ (n 5) (x 0)) (r 3))", 900, 5, "");
        gives("(t (; (; (s 1 (n 2)) (o (i))) (; (w 0 (n 3)) (d (n 1)))) (+ (x 1) (+ (r 0) (i))))", 45, 17, "30 ");
        gives("(c 1 (p 0) (p 1))", 9, 3 + 8, "");
        gives("(; (s 0 (n 9)) (+ (c 1 (n 1) (n 2)) (x 0)))", 8, 5 + 3 + 8, "");
        gives("(c 3 (o (n 1)) (o (n 2)))", 0, 5, "1 2 ");
        Bindtime x = Build.with("(/ (p 0) (p 1))");
        x.run(false, Integer.MIN_VALUE, -1, 9);
        Check.same("18 least by -1", x.result(), Integer.MIN_VALUE);
        Bindtime y = Build.with("(* (p 0) (p 1))");
        y.run(false, Integer.MAX_VALUE, 3, 9);
        Check.same("18 as Java does", y.result(), Integer.MAX_VALUE * 3);
    }

    private static void runCellsAndThrown() {
        Bindtime x = Build.with("(; (w 0 (p 0)) (; (c 1 (r 0) (p 1)) (w 1 (n 1))))", "(; (w 2 (+ (r 0) (n 1))) (d (p 1)))");
        Check.same("18 thrown", x.run(false, 7, -2, 100), 'd');
        Check.same("19 thrown", x.result(), -2);
        Check.same("20 thrown", x.steps(), 14);
        Check.same("21 cell 0", x.cell(0), 7);
        Check.same("21 cell 1", x.cell(1), 0);
        Check.same("21 cell 2", x.cell(2), 8);
        Check.same("21 cell 3 is of 't' alone", x.cell(3), 0);
        Bindtime y = Build.with("(/ (n 1) (p 0))");
        Check.same("18 division by 0", y.run(false, 0, 0, 3), 'd');
        Check.same("19 division by 0", y.result(), 900);
        Bindtime z = Build.with("(t (c 1 (p 0) (p 1)) (t (d (+ (r 3) (n 1))) (d (r 3))))", "(d (p 1))");
        Check.same("18 thrown behind", z.run(false, 1, 5, 100), 'd');
        Check.same("19 thrown behind", z.result(), 6);
        Check.same("21 thrown behind", z.cell(3), 6);
        x.run(false, 0, 0, 3);
        Check.same("21 cells are 0 at first", x.cell(2), 0);
    }

    private static void runOver() {
        Bindtime x = Build.with("(+ (p 0) (o (p 1)))");
        Check.same("18 as many steps as are allowed", x.run(false, 1, 2, 4), 'e');
        Check.same("18 one step less", x.run(false, 1, 2, 3), 'l');
        Check.same("19 over", x.result(), 0);
        Check.same("20 over", x.steps(), 3);
        Check.same("22 over", x.outputs(), 0);
        Bindtime calls = Build.with(Build.UP);
        Check.same("18 ten are run", calls.run(false, 0, 9, 2000), 'e');
        Check.same("19 ten are run", calls.result(), 9);
        Check.same("18 eleven would be run", calls.run(false, 0, 10, 2000), 'l');
        Check.same("20 eleven would be run", calls.steps(), 10 * 9);
        Bindtime caught = Build.with("(? (p 1) (t (c 0 (p 0) (- (p 1) (n 1))) (n 5)) (c 3 (n 1) (n 2)))");
        Check.same("18 a call without a body is none", caught.run(false, 0, 9, 2000), 'e');
        Check.same("18 over is not caught", caught.run(false, 0, 10, 2000), 'l');
        Bindtime thrown = Build.with("(; (t (c 1 (n 8) (n 0)) (n 0)) (c 1 (n 8) (n 1)))",
                "(? (p 0) (c 1 (- (p 0) (n 1)) (p 1)) (? (p 1) (n 3) (d (n 1))))");
        Check.same("18 procedures that were thrown out of are not run", thrown.run(false, 0, 0, 2000), 'e');
        Check.same("19 procedures that were thrown out of are not run", thrown.result(), 3);
        deep();
        deepInEachKind();
    }

    /** A call stands in so many nodes and two more, so that ten of them stand in 200 nodes, the innermost one counted. */
    private static void deep() {
        for (int more = 0; more < 2; more++) {
            String tree = "(? (p 0) (c 0 (- (p 0) (n 1)) (p 1)) " + (more == 0 ? "(n 7)" : "(o (n 7))") + ")";
            for (int i = 0; i < 18; i++) {
                tree = "(o " + tree + ")";
            }
            Bindtime x = Build.with(tree);
            Check.same("18 inside of 199 or 200 nodes", x.run(false, 9, 0, 2000), more == 0 ? 'e' : 'l');
            Check.same("20 inside of 199 or 200 nodes", x.steps(), 9 * (18 + 2 + 5) - 9 + 18 + 3 + 9);
            Check.same("22 inside of 199 or 200 nodes", x.outputs(), more == 0 ? 180 : 0);
        }
    }

    /** Each kind that asks parts is one node more around each of them: 18 levels a call, as in deep(). */
    private static void deepInEachKind() {
        String[] around = {"(s 0 *)", "(w 0 *)", "(+ * (n 0))", "(- (n 1) *)", "(/ * (n 1))", "(? * (n 1) (n 2))",
            "(? (n 1) * (n 2))", "(? (n 0) (n 1) *)", "(; * (n 1))", "(; (n 1) *)", "(t * (n 1))", "(t (d (n 1)) *)",
            "(c 4 * (n 1))", "(c 4 (n 1) *)", "(t (d *) (n 1))", "(o *)", "(o *)"};
        for (int more = 0; more < 2; more++) {
            String tree = "(? (p 0) (c 0 (- (p 0) (n 1)) (p 1)) " + (more == 0 ? "(n 7)" : "(o (n 7))") + ")";
            for (String one : around) {
                tree = one.replace("*", tree);
            }
            Bindtime x = Build.with(tree);
            Check.same("18 each kind, 199 or 200 nodes", x.run(false, 9, 0, 2000), more == 0 ? 'e' : 'l');
            Check.same("22 each kind, 199 or 200 nodes", x.outputs(), more == 0 ? 20 : 0);
        }
    }

    private static void run() {
        Bindtime x = new Bindtime();
        Check.refuses("18 no body", STATE, () -> x.run(false, 1, 2, 0));
        int node = new Trees(x).add(Build.POWER);
        x.setBody(0, node);
        Check.refuses("18 nothing made", STATE, () -> x.run(true, 1, 2, 0));
        Check.refuses("18 no steps", ARGUMENT, () -> x.run(false, 1, 2, 0));
        Check.refuses("18 less steps than none", ARGUMENT, () -> x.run(false, 1, 2, -1));
        Check.refuses("18 too many steps", ARGUMENT, () -> x.run(false, 1, 2, 2001));
        Check.refuses("19 refused ones are no runs", STATE, x::result);
        Check.same("24 refused ones have no steps", x.allSteps(), 0L);
        Check.same("18 one step", x.run(false, 1, 2, 1), 'l');
        Check.same("18 2000 steps", x.run(false, 3, 2, 2000), 'e');
        Check.same("19 power", x.result(), 8);
        x.begin(3);
        Check.refuses("18 not done", STATE, () -> x.run(true, 1, 2, 5));
        x.makeAll();
        Check.same("18 made", x.run(true, 77, 5, 2000), 'e');
        Check.same("19 made", x.result(), 125);
        Check.same("20 made", x.steps(), 7);
        Check.refuses("18 too many steps for the made one", ARGUMENT, () -> x.run(true, 1, 2, 2001));
        x.setBody(0, -1);
        Check.refuses("18 no body for the made one", STATE, () -> x.run(true, 1, 2, 5));
        Check.same("19 the last run stays", x.result(), 125);
        Bindtime y = Build.failing();
        y.makeAll();
        Check.refuses("18 failed", STATE, () -> y.run(true, 1, 2, 5));
    }

    // 19 to 23

    private static void lastRun() {
        Bindtime x = Build.with("(; (o (p 0)) (; (w 1 (o (p 1))) (o (i))))");
        Check.refuses("19 nothing was run", STATE, x::result);
        Check.refuses("20 nothing was run", STATE, x::steps);
        Check.refuses("21 nothing was run", STATE, () -> x.cell(9));
        Check.refuses("22 nothing was run", STATE, x::outputs);
        Check.refuses("23 nothing was run", STATE, () -> x.output(9));
        x.addInput(6);
        x.run(false, 1, 2, 100);
        x.isConsistent();
        Check.same("19 result", x.result(), 6);
        Check.same("20 steps", x.steps(), 9);
        Check.same("21 cell", x.cell(1), 2);
        Check.refuses("21 no cell 4", INDEX, () -> x.cell(4));
        Check.refuses("21 no cell -1", INDEX, () -> x.cell(-1));
        Check.same("22 outputs", x.outputs(), 3);
        Check.same("23 first", x.output(0), 1);
        Check.same("23 last", x.output(2), 6);
        Check.refuses("23 no output 3", ELEMENT, () -> x.output(3));
        Check.refuses("23 no output -1", ELEMENT, () -> x.output(-1));
        x.run(false, 1, 2, 3);
        Check.same("22 of the last run", x.outputs(), 1);
        Check.refuses("23 of the last run", ELEMENT, () -> x.output(1));
        Bindtime many = Build.with("(? (p 1) (; (c 1 (p 0) (p 0)) (c 0 (p 0) (- (p 1) (n 1)))) (n 0))",
                "(; (; (; (o (n 1)) (o (n 2))) (; (o (n 3)) (o (n 4)))) (; (; (o (n 5)) (o (n 6))) (o (n 7))))");
        Check.same("22 many, end", many.run(false, 0, 9, 2000), 'e');
        Check.same("22 many", many.outputs(), 63);
        Check.same("23 many", many.output(62), 7);
    }

    // 24

    private static void allSteps() {
        Bindtime x = Build.with("(+ (p 0) (p 1))");
        x.run(false, 1, 2, 100);
        x.run(false, 1, 2, 2);
        Check.same("24 all", x.allSteps(), 5L);
        x.begin(1);
        x.makeAll();
        x.isLike(3);
        x.gain(3);
        x.isConsistent();
        Check.same("24 comparisons are no runs", x.allSteps(), 5L);
        Check.same("20 comparisons are no runs", x.steps(), 2);
        x.run(true, 1, 2, 100);
        Check.same("24 made ones, too", x.allSteps(), 8L);
    }

    // 25

    private static void isLike() {
        Bindtime x = Build.with("(+ (p 0) (p 1))");
        Check.refuses("25 nothing made", STATE, () -> x.isLike(0));
        x.begin(4);
        Check.refuses("25 not done", STATE, () -> x.isLike(0));
        x.makeAll();
        Check.same("25 like", x.isLike(9), true);
        Trees trees = new Trees(x);
        trees.body(0, "(+ (p 1) (n 4))");
        Check.same("25 another program that answers the same", x.isLike(9), true);
        trees.body(0, "(? (= (p 1) (n 3)) (n 8) (+ (p 0) (p 1)))");
        Check.same("25 another number", x.isLike(3), false);
        Check.same("25 the same number", x.isLike(2), true);
        trees.body(0, "(; (w 2 (n 1)) (+ (p 0) (p 1)))");
        Check.same("25 another cell", x.isLike(3), false);
        trees.body(0, "(; (o (n 1)) (+ (p 0) (p 1)))");
        Check.same("25 more is put out", x.isLike(3), false);
        trees.body(0, "(d (+ (p 0) (p 1)))");
        Check.same("25 another end", x.isLike(3), false);
        trees.body(0, "(c 0 (p 0) (p 1))");
        Check.same("25 one is over", x.isLike(3), true);
        trees.body(0, "(; (o (n 1)) (n 2))");
        x.begin(4);
        x.makeAll();
        trees.body(0, "(; (o (n 3)) (n 2))");
        Check.same("25 something else is put out", x.isLike(3), false);
        x.setBody(0, -1);
        Check.refuses("25 no body", STATE, () -> x.isLike(0));
        Bindtime y = Build.failing();
        y.makeAll();
        Check.refuses("25 failed", STATE, () -> y.isLike(0));
    }

    // 26

    private static void gain() {
        Bindtime x = Build.with(Build.POWER);
        Check.refuses("26 nothing made", STATE, () -> x.gain(0));
        x.begin(4);
        Check.refuses("26 not done", STATE, () -> x.gain(0));
        x.makeAll();
        Check.same("26 quotient", x.gain(2), 9.0f / 39.0f);
        x.begin(12);
        x.makeAll();
        Check.refuses("26 over", ARITHMETIC, () -> x.gain(2));
        x.setBody(0, -1);
        Check.refuses("26 no body", STATE, () -> x.gain(0));
        Bindtime y = Build.done(1, "(+ (p 0) (p 1))");
        int loop = new Trees(y).add("(c 0 (n 1) (n 1))");
        y.setBody(0, loop);
        Check.refuses("26 the original is over", ARITHMETIC, () -> y.gain(2));
        Bindtime z = Build.failing();
        z.makeAll();
        Check.refuses("26 failed", STATE, () -> z.gain(0));
    }

    // 27

    private static void meanSize() {
        Bindtime x = Build.with("(c 1 (p 1) (p 0))", "(i)");
        Check.refuses("27 nothing made", STATE, x::meanSize);
        x.begin(4);
        Check.refuses("27 not done", STATE, x::meanSize);
        x.makeAll();
        Check.same("27 of two", x.meanSize(), 1.5);
        Bindtime y = Build.done(0, Build.UP);
        Check.same("27 of four", y.meanSize(), (y.sizeOf(0) + y.sizeOf(1) + y.sizeOf(2) + y.sizeOf(3)) / 4.0);
    }

    // 28

    private static void isConsistent() {
        Bindtime x = Build.done(3, Build.POWER);
        Check.same("28 done", x.isConsistent(), true);
        new Trees(x).body(0, "(n 3)");
        Check.same("28 a body was set since", x.isConsistent(), true);
        Check.same("28 though it is not like", x.isLike(2), false);
        x.begin(3);
        Check.same("28 one waits", x.isConsistent(), true);
        Bindtime y = Build.failing();
        y.makeAll();
        Check.same("28 failed", y.isConsistent(), true);
        x.makeAll();
        x.setAhead(0);
        x.addInput(3);
        Check.same("28 limits and inputs do not matter", x.isConsistent(), true);
    }
}
