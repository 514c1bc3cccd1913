/** The edges of the calls: each sentence of the promises 1 to 17 and 25 to 28 that names one. */
public final class CallEdgeTest {
    private static final int MIN = Integer.MIN_VALUE;
    private static final int MAX = Integer.MAX_VALUE;
    private static final String ARGUMENT = "IllegalArgumentException";
    private static final String INDEX = "IndexOutOfBoundsException";
    private static final String STATE = "IllegalStateException";
    private static final String ELEMENT = "NoSuchElementException";
    private static final String UNSUPPORTED = "UnsupportedOperationException";
    private static final String ARITHMETIC = "ArithmeticException";

    public static void main(String[] args) {
        newObject();
        kinds();
        numbersThatAreNoParts();
        numbersThatAreNotTold();
        parts();
        fortyEightNodes();
        setBody();
        bodiesBeforeAndAfter();
        inputs();
        limits();
        isEarlyRanges();
        isEarlyParts();
        isEarlyBodies();
        isEarlyOfAllNodes();
        begin();
        bodiesAndLimitsOfTheMoment();
        make();
        makeAll();
        stateAndProcedures();
        known();
        sizes();
        isLike();
        isLikeInAll();
        isLikeIsNoRun();
        gain();
        meanSize();
        isConsistent();
        noTwoAlike();
        Check.end("CallEdgeTest");
    }

    private static void answers(String name, Check.Call call, Object due) {
        Check.same(name, Build.outcome(call), due);
    }

    // Promise 1: "Creates a program without nodes and bodies"

    private static void newObject() {
        answers("1 no node that could be a body", () -> new Bindtime().setBody(0, 0), INDEX);
        answers("1 no node that could be a part", () -> new Bindtime().addNode('o', 0, 0, 0), INDEX);
        answers("1 the first node is 0", () -> new Bindtime().addNode('n', 0, 0, 0), 0);
        for (int i = 0; i < 5; i++) {
            int procedure = i;
            answers("1 no body " + i, () -> new Bindtime().setBody(procedure, -1), -1);
        }
        answers("1 nothing to run", () -> new Bindtime().run(false, 0, 0, 1), STATE);
        answers("1 nothing to make", () -> new Bindtime().begin(0), STATE);
        answers("1 no making", () -> new Bindtime().state(), '-');
        answers("1 no inputs", () -> new Bindtime().clearInputs(), 0);
        answers("1 no steps", () -> new Bindtime().allSteps(), 0L);
        answers("1 limit of calls", () -> new Bindtime().setAhead(0), 4);
        answers("1 limit of made ones", () -> new Bindtime().setMade(1), 3);
        answers("1 consistent", () -> new Bindtime().isConsistent(), true);
    }

    // Promise 2: "if there is no such kind"

    private static void kinds() {
        Bindtime x = new Bindtime();
        x.addNode('i', 0, 0, 0);
        int refused = 0;
        for (int sign = 0; sign < 65536; sign++) {
            char kind = (char) sign;
            if (Build.KINDS.indexOf(kind) < 0) {
                refused += Build.outcome(() -> x.addNode(kind, 0, 0, 0)).equals(ARGUMENT) ? 1 : 0;
            }
        }
        Check.same("2 all but nineteen signs are no kinds", refused, 65536 - 19);
        for (int i = 0; i < 19; i++) {
            char kind = Build.KINDS.charAt(i);
            answers("2 kind " + kind, () -> x.addNode(kind, 0, 0, 0), i + 1);
        }
    }

    // "or a number that is no part is out of range: for 'n' -999 to 999, for 'p' 0 and 1, for slots and cells 0 to 3,
    // for procedures 0 to 4"

    private static void range(char kind, int least, int greatest, int b, int c) {
        for (int number : new int[] {least, least + 1, greatest - 1, greatest}) {
            Bindtime x = new Bindtime();
            x.addNode('i', 0, 0, 0);
            answers("2 " + kind + " " + number, () -> x.addNode(kind, number, b, c), 1);
        }
        for (int number : new int[] {least - 1, greatest + 1, MIN, MAX}) {
            Bindtime x = new Bindtime();
            x.addNode('i', 0, 0, 0);
            answers("2 " + kind + " " + number, () -> x.addNode(kind, number, b, c), ARGUMENT);
            answers("2 " + kind + " " + number + " added nothing", () -> x.addNode('i', 0, 0, 0), 1);
        }
    }

    private static void numbersThatAreNoParts() {
        range('n', -999, 999, 0, 0);
        range('p', 0, 1, 0, 0);
        range('x', 0, 3, 0, 0);
        range('s', 0, 3, 0, 0);
        range('r', 0, 3, 0, 0);
        range('w', 0, 3, 0, 0);
        range('c', 0, 4, 0, 0);
    }

    // "or one that is not told is not 0"

    private static void numbersThatAreNotTold() {
        // Behind each kind stand the places whose numbers are told.
        String[] told = {"na", "pa", "xa", "sab", "ra", "wab", "+ab", "-ab", "*ab", "<ab", "=ab", "/ab", "?abc", ";ab",
            "cabc", "i", "oa", "da", "tab"};
        for (String one : told) {
            char kind = one.charAt(0);
            for (int place = 0; place < 3; place++) {
                if (one.indexOf("abc".charAt(place), 1) >= 0) {
                    continue;
                }
                for (int number : new int[] {-1, 1, MIN, MAX}) {
                    int[] abc = new int[3];
                    abc[place] = number;
                    Bindtime x = new Bindtime();
                    x.addNode('i', 0, 0, 0);
                    x.addNode('i', 0, 0, 0);
                    String name = "2 " + kind + " " + abc[0] + " " + abc[1] + " " + abc[2];
                    answers(name, () -> x.addNode(kind, abc[0], abc[1], abc[2]), ARGUMENT);
                    answers(name + " added nothing", () -> x.addNode(kind, 0, 0, 0), 2);
                }
            }
        }
    }

    // "if there is no such node as a part"

    private static void parts() {
        String[] places = {"sb", "wb", "+ab", "-ab", "*ab", "<ab", "=ab", "/ab", "?abc", ";ab", "cbc", "oa", "da", "tab"};
        for (String one : places) {
            char kind = one.charAt(0);
            for (int i = 1; i < one.length(); i++) {
                int place = "abc".indexOf(one.charAt(i));
                for (int number : new int[] {-1, 3, 4, 47, 48, MIN, MAX, 0, 1, 2}) {
                    int[] abc = new int[3];
                    abc[place] = number;
                    Bindtime x = new Bindtime();
                    for (int k = 0; k < 3; k++) {
                        x.addNode('i', 0, 0, 0);
                    }
                    boolean is = number >= 0 && number < 3;
                    String name = "2 part " + kind + " " + abc[0] + " " + abc[1] + " " + abc[2];
                    answers(name, () -> x.addNode(kind, abc[0], abc[1], abc[2]), is ? (Object) 3 : INDEX);
                    answers(name + " then", () -> x.addNode('i', 0, 0, 0), is ? 4 : 3);
                }
            }
        }
    }

    // "There are at most 48 nodes, numbered from 0", "if there are 48 nodes"

    private static void fortyEightNodes() {
        Bindtime x = new Bindtime();
        x.addNode('i', 0, 0, 0);
        for (int i = 1; i < 48; i++) {
            int before = i - 1;
            answers("2 node " + i, () -> x.addNode('o', before, 0, 0), before + 1);
        }
        for (char kind : Build.KINDS.toCharArray()) {
            answers("2 the 49th " + kind, () -> x.addNode(kind, 0, 0, 0), STATE);
        }
        answers("2 a part that would be there", () -> x.addNode('o', 47, 0, 0), STATE);
        answers("3 no node 48", () -> x.setBody(0, 48), INDEX);
        answers("3 node 47", () -> x.setBody(0, 47), -1);
        x.addInput(6);
        answers("18 48 nodes are run", () -> x.run(false, 0, 0, 48), 'e');
        Check.same("22 47 are put out", x.outputs(), 47);
        x.begin(0);
        answers("11 48 nodes are made", () -> x.makeAll(), 1);
        Check.same("16 48 nodes", x.sizeOf(0), 48);
        Check.same("28 48 nodes", x.isConsistent(), true);
    }

    // Promise 3: "the body before, or -1", "if there is no such procedure or node"

    private static void setBody() {
        Bindtime x = new Bindtime();
        for (int i = 0; i < 3; i++) {
            x.addNode('n', i, 0, 0);
        }
        for (int procedure : new int[] {0, 1, 2, 3, 4}) {
            answers("3 no body before " + procedure, () -> x.setBody(procedure, -1), -1);
            answers("3 first node " + procedure, () -> x.setBody(procedure, 0), -1);
            answers("3 last node " + procedure, () -> x.setBody(procedure, 2), 0);
            for (int node : new int[] {-2, 3, 47, 48, MIN, MAX}) {
                answers("3 no such node " + procedure + " " + node, () -> x.setBody(procedure, node), INDEX);
            }
            answers("3 the same node " + procedure, () -> x.setBody(procedure, 2), 2);
        }
        for (int procedure : new int[] {-1, 5, MIN, MAX}) {
            for (int node : new int[] {-1, 0, 2, 3}) {
                answers("3 no such procedure " + procedure + " " + node, () -> x.setBody(procedure, node), INDEX);
            }
        }
        for (int i = 0; i < 5; i++) {
            int procedure = i;
            answers("3 each has its own " + i, () -> x.setBody(procedure, -1), 2);
        }
    }

    // "What was made before stays as it is"

    private static void bodiesBeforeAndAfter() {
        Bindtime x = Build.done(3, Build.POWER);
        int size = x.sizeOf(0);
        int other = x.addNode('d', 0, 0, 0);
        x.setBody(0, other);
        Check.same("3 size stays", x.sizeOf(0), size);
        Check.same("3 state stays", x.state(), 'd');
        x.run(true, 0, 2, 100);
        Check.same("3 what was made stays", x.result(), 8);
        x.run(false, 6, 2, 100);
        Check.same("3 the original is another one", x.result(), 6);
        x.setBody(0, -1);
        Check.same("3 size stays without a body", x.sizeOf(0), size);
        Check.same("3 mean stays without a body", x.meanSize(), (double) size);
        Check.same("3 known stays without a body", x.known(0, 0), 3);
    }

    // Promises 4 and 5: "if there are 8 inputs", "Returns how many there were"

    private static void inputs() {
        Bindtime x = Build.with("(o (i))");
        answers("5 none", x::clearInputs, 0);
        int[] numbers = {MIN, -1, 0, 1, MAX, 5, 6, 7};
        for (int turn = 0; turn < 2; turn++) {
            for (int i = 0; i < 8; i++) {
                int number = numbers[i];
                answers("4 input " + i, () -> x.addInput(number), i + 1);
            }
            answers("4 a ninth one", () -> x.addInput(3), STATE);
            answers("4 a ninth one again", () -> x.addInput(MIN), STATE);
            x.run(false, 0, 0, 10);
            Check.same("4 the first one is first", x.result(), MIN);
            answers("5 eight", x::clearInputs, 8);
            Check.same("5 the last run stays", x.result(), MIN);
            answers("5 none again", x::clearInputs, 0);
            x.run(false, 0, 0, 10);
            Check.same("5 none in a run", x.result(), 0);
        }
        answers("4 one", () -> x.addInput(9), 1);
        answers("5 one", x::clearInputs, 1);
    }

    // Promises 6 and 7: "the limit, 0 to 6", "4 at first", "the limit, 1 to 4", "3 at first"

    private static void limits() {
        Bindtime x = new Bindtime();
        int before = 4;
        for (int calls : new int[] {0, 1, 2, 3, 4, 5, 6, 0, 6, 6}) {
            for (int wrong : new int[] {-1, 7, MIN, MAX}) {
                answers("6 out of range " + wrong, () -> x.setAhead(wrong), ARGUMENT);
            }
            answers("6 limit " + calls, () -> x.setAhead(calls), before);
            before = calls;
        }
        before = 3;
        for (int procedures : new int[] {1, 2, 3, 4, 1, 4, 4}) {
            for (int wrong : new int[] {0, 5, -1, MIN, MAX}) {
                answers("7 out of range " + wrong, () -> x.setMade(wrong), ARGUMENT);
            }
            answers("7 limit " + procedures, () -> x.setMade(procedures), before);
            before = procedures;
        }
        answers("6 is not 7", () -> x.setAhead(4), 6);
    }

    // Promise 8

    private static void isEarlyRanges() {
        Bindtime x = new Bindtime();
        for (int procedure = 0; procedure < 5; procedure++) {
            for (int number = 0; number < 2; number++) {
                int p = procedure;
                int n = number;
                answers("8 without bodies " + p + " " + n, () -> x.isEarly(p, n), p != 0 || n != 1);
            }
            int p = procedure;
            for (int wrong : new int[] {-1, 2, MIN, MAX}) {
                answers("8 no number " + p + " " + wrong, () -> x.isEarly(p, wrong), INDEX);
            }
        }
        for (int wrong : new int[] {-1, 5, MIN, MAX}) {
            answers("8 no procedure " + wrong, () -> x.isEarly(wrong, 0), INDEX);
            answers("8 no procedure, second number " + wrong, () -> x.isEarly(wrong, 1), INDEX);
            answers("8 neither " + wrong, () -> x.isEarly(wrong, wrong), INDEX);
        }
    }

    // "a part that is early: n, a p of the set of the procedure in whose body the call stands, or + - * < = of early parts"

    private static void isEarlyParts() {
        String[] early = {"(n 0)", "(p 0)", "(+ (p 0) (n 1))", "(- (p 0) (p 0))", "(* (n 1) (n 2))", "(< (p 0) (n 1))",
            "(= (n 1) (p 0))", "(+ (- (* (p 0) (n 1)) (n 2)) (< (p 0) (= (n 1) (n 1))))"};
        String[] late = {"(p 1)", "(x 0)", "(r 0)", "(i)", "(/ (n 4) (n 2))", "(s 0 (n 1))", "(w 0 (n 1))", "(o (n 1))",
            "(d (n 1))", "(; (n 1) (n 1))", "(? (n 1) (n 1) (n 1))", "(t (n 1) (n 1))", "(c 4 (n 1) (n 1))"};
        for (String part : early) {
            Check.same("8 early first part " + part, Build.with("(c 1 " + part + " (i))").isEarly(1, 0), true);
            Check.same("8 early second part " + part, Build.with("(c 1 (i) " + part + ")").isEarly(1, 1), true);
            Check.same("8 early beside a late one " + part, Build.with("(c 1 " + part + " (i))").isEarly(1, 1), false);
        }
        for (String part : late) {
            Check.same("8 late first part " + part, Build.with("(c 1 " + part + " (n 1))").isEarly(1, 0), false);
            Check.same("8 late second part " + part, Build.with("(c 1 (n 1) " + part + ")").isEarly(1, 1), false);
            for (String sum : new String[] {"+", "-", "*", "<", "="}) {
                Check.same("8 first in a sum " + part, Build.with("(c 1 (" + sum + " " + part + " (n 1)) (n 1))").isEarly(1, 0), false);
                Check.same("8 second in a sum " + part, Build.with("(c 1 (" + sum + " (n 1) " + part + ") (n 1))").isEarly(1, 0), false);
            }
        }
        Bindtime second = Build.with("(c 1 (p 0) (p 1))", "(c 2 (p 0) (p 1))", "(c 0 (p 0) (p 0))");
        Check.same("8 the second number of the procedure 0 never is", second.isEarly(0, 1), false);
        Check.same("8 handed on", second.isEarly(2, 0), true);
        Check.same("8 late handed on", second.isEarly(2, 1), false);
        Check.same("8 the first number of the procedure 0", second.isEarly(0, 0), true);
        Bindtime first = Build.with("(c 0 (p 1) (p 0))");
        Check.same("8 the first number of the procedure 0 may be late", first.isEarly(0, 0), false);
        Bindtime own = Build.with("(n 1)", "(c 1 (+ (p 0) (n 1)) (p 1))");
        Check.same("8 the greatest set has what only a call of itself gives", own.isEarly(1, 0) && own.isEarly(1, 1), true);
    }

    // "each call, in any node that is there", "a call in a node that stands in no body does not matter"

    private static void isEarlyBodies() {
        Bindtime x = Build.with("(n 1)");
        Trees trees = new Trees(x);
        int call = trees.add("(o (c 1 (i) (p 1)))");
        Check.same("8 stands in no body", x.isEarly(1, 0) && x.isEarly(1, 1), true);
        x.setBody(2, call);
        Check.same("8 stands in a body that nobody calls", x.isEarly(1, 0), false);
        Check.same("8 'p' of the procedure in whose body it stands", x.isEarly(1, 1), true);
        x.setBody(0, call);
        Check.same("8 stands in two bodies", x.isEarly(1, 1), false);
        x.setBody(0, -1);
        Check.same("8 stands in one again", x.isEarly(1, 1), true);
        x.setBody(2, -1);
        Check.same("8 stands in none again", x.isEarly(1, 0) && x.isEarly(1, 1), true);
        x.setBody(1, call);
        Check.same("8 in the body of the one that is called", x.isEarly(1, 0), false);
        String[] around = {"(s 0 *)", "(w 0 *)", "(+ * (n 1))", "(- (n 1) *)", "(* * (n 1))", "(< (n 1) *)", "(= * (n 1))",
            "(/ (n 1) *)", "(? * (n 1) (n 2))", "(? (n 1) * (n 2))", "(? (n 1) (n 1) *)", "(; * (n 1))", "(; (n 1) *)",
            "(c 2 * (n 1))", "(c 2 (n 1) *)", "(o *)", "(d *)", "(t * (n 1))", "(t (n 1) *)"};
        for (String one : around) {
            Bindtime y = Build.with(one.replace("*)", "(c 1 (i) (n 1)))").replace(" * ", " (c 1 (i) (n 1)) "));
            Check.same("8 inside of " + one, y.isEarly(1, 0), false);
            Check.same("8 inside of " + one + ", second number", y.isEarly(1, 1), true);
        }
    }

    // "in any node that is there", also in the last one of 48

    private static void isEarlyOfAllNodes() {
        Bindtime x = new Bindtime();
        x.addNode('p', 0, 0, 0);
        x.addNode('p', 1, 0, 0);
        for (int node = 2; node < 47; node++) {
            x.addNode('+', node - 1, 0, 0);
        }
        Check.same("8 the last node", x.addNode('c', 1, 46, 0), 47);
        answers("8 the last node stands in no body", () -> x.isEarly(1, 0), true);
        x.setBody(0, 47);
        answers("8 the last node gives what is late", () -> x.isEarly(1, 0), false);
        answers("8 the last node gives what is early", () -> x.isEarly(1, 1), true);
        x.setBody(0, 46);
        x.setBody(2, 47);
        answers("8 the last node in another body", () -> x.isEarly(1, 0), true);
    }

    // Promise 9: "the number of procedures that wait, 1", "if the procedure 0 has no body"

    private static void begin() {
        for (int early : new int[] {MIN, -1, 0, 1, MAX}) {
            Bindtime x = Build.with("(p 0)");
            answers("9 begins " + early, () -> x.begin(early), 1);
            Check.same("9 the early number " + early, x.known(0, 0), early);
            Check.same("9 one procedure " + early, x.procedures(), 1);
            Check.same("9 for the procedure 0 " + early, x.original(0), 0);
            answers("9 its second number is late " + early, () -> x.known(0, 1), ELEMENT);
            answers("9 begins again while it waits " + early, () -> x.begin(7), 1);
            Check.same("9 another early number " + early, x.known(0, 0), 7);
        }
        Bindtime others = Build.with("", "(n 1)", "(n 1)", "(n 1)", "(n 1)");
        answers("9 only the other procedures have bodies", () -> others.begin(1), STATE);
        Check.same("9 nothing was begun", others.state(), '-');
        others.setBody(0, 0);
        answers("9 now it has", () -> others.begin(1), 1);
        others.setBody(0, -1);
        answers("9 now it has none", () -> others.begin(2), STATE);
        Check.same("9 the one before goes on", others.known(0, 0), 1);
        answers("9 the one before can be made", others::make, 0);
        answers("9 none, and it is done", () -> others.begin(2), STATE);
        Check.same("9 it is done still", others.state(), 'd');
        Bindtime failed = Build.failed();
        Check.same("9 has failed", failed.state(), 'f');
        answers("9 begins behind one that has failed", () -> failed.begin(1), 1);
        Check.same("9 waits", failed.state(), 'w');
        Check.same("9 what was found before is gone", failed.procedures(), 1);
    }

    // "by the bodies and limits of this moment, which count for it until it is done"

    private static void bodiesAndLimitsOfTheMoment() {
        Bindtime x = Build.with("(+ (c 1 (n 1) (p 1)) (+ (c 1 (n 2) (p 1)) (c 1 (n 3) (p 1))))", "(c 2 (p 0) (p 1))", "(+ (p 0) (p 1))");
        x.setAhead(0);
        x.setMade(2);
        x.begin(0);
        x.make();
        Check.same("9 two and the general one", x.procedures(), 4);
        x.setMade(4);
        x.setAhead(6);
        x.setBody(1, -1);
        x.setBody(2, -1);
        x.setBody(0, -1);
        x.makeAll();
        Check.same("9 limits of the beginning", x.procedures(), 7);
        Check.same("9 bodies of the beginning", x.sizeOf(3), 3);
        Check.same("9 bodies of the beginning, a call", x.countOf(3, 'c'), 1);
        Check.same("9 bodies of the beginning, a sum", x.countOf(6, '+'), 1);
        x.setBody(0, x.addNode('n', 5, 0, 0));
        x.begin(0);
        x.makeAll();
        Check.same("9 bodies of the next beginning", x.sizeOf(0), 1);
    }

    // Promise 10: "Returns how many wait then, or -1 if the making fails by this"

    private static void make() {
        Bindtime none = Build.with("(n 1)");
        answers("10 none was begun", none::make, STATE);
        none.begin(0);
        answers("10 none waits then", none::make, 0);
        answers("10 none waits", none::make, STATE);
        Bindtime two = Build.with("(+ (c 1 (p 1) (n 1)) (c 2 (p 1) (n 1)))", "(i)", "(c 3 (p 0) (p 0))", "(i)");
        two.begin(0);
        answers("10 two wait", two::make, 2);
        answers("10 one waits", two::make, 1);
        answers("10 one is made, one is found", two::make, 1);
        answers("10 none waits then, of four", two::make, 0);
        answers("10 none waits, of four", two::make, STATE);
        Bindtime failing = Build.failing();
        answers("10 three wait", failing::make, 3);
        Check.same("10 it goes on", failing.state(), 'w');
        int answer = 0;
        for (int i = 0; i < 12 && answer >= 0; i++) {
            answer = failing.make();
        }
        Check.same("10 fails", answer, -1);
        answers("10 has failed", failing::make, UNSUPPORTED);
        answers("10 has failed, again", failing::make, UNSUPPORTED);
        Bindtime atOnce = Build.with(big());
        atOnce.begin(0);
        answers("10 fails by the first one", atOnce::make, -1);
        answers("10 has failed by the first one", atOnce::make, UNSUPPORTED);
    }

    /** More than 300 nodes in one made procedure. */
    private static String big() {
        String tree = "(i)";
        for (int i = 0; i < 8; i++) {
            tree = "(+ " + tree + " " + tree + ")";
        }
        return tree;
    }

    // Promise 11: "Returns how many were made, without the one by which it fails"

    private static void makeAll() {
        Bindtime none = Build.with("(n 1)");
        answers("11 none was begun", none::makeAll, STATE);
        none.begin(0);
        answers("11 one", none::makeAll, 1);
        answers("11 none waits", none::makeAll, STATE);
        Bindtime two = Build.with("(+ (c 1 (p 1) (n 1)) (c 2 (p 1) (n 1)))", "(i)", "(c 3 (p 0) (p 0))", "(i)");
        two.begin(0);
        answers("11 four", two::makeAll, 4);
        two.begin(0);
        two.make();
        two.make();
        two.make();
        answers("11 the last one", two::makeAll, 1);
        answers("11 none waits, of four", two::makeAll, STATE);
        Bindtime atOnce = Build.with(big());
        atOnce.begin(0);
        answers("11 fails by the first one", atOnce::makeAll, 0);
        answers("11 has failed by the first one", atOnce::makeAll, UNSUPPORTED);
        Bindtime second = Build.with("(c 1 (p 1) (p 0))", big());
        second.begin(0);
        answers("11 fails by the second one", second::makeAll, 1);
        answers("11 has failed already", second::makeAll, UNSUPPORTED);
        answers("10 has failed already", second::make, UNSUPPORTED);
        second.begin(0);
        second.make();
        answers("11 fails by the second one, the first one was made before", second::makeAll, 0);
    }

    // Promises 12 and 13

    private static void stateAndProcedures() {
        Bindtime x = Build.with("(c 1 (p 1) (p 0))", big());
        Check.same("12 none was begun", x.state(), '-');
        answers("13 none was begun", x::procedures, STATE);
        x.begin(0);
        Check.same("12 one waits", x.state(), 'w');
        Check.same("13 one waits", x.procedures(), 1);
        x.make();
        Check.same("12 another one waits", x.state(), 'w');
        Check.same("13 one waits, one is made", x.procedures(), 2);
        x.make();
        Check.same("12 has failed", x.state(), 'f');
        Check.same("13 has failed", x.procedures(), 2);
        Check.same("14 has failed", x.original(1), 1);
        Check.same("15 has failed", x.known(1, 1), 0);
        x.setBody(1, 0);
        x.begin(0);
        x.makeAll();
        Check.same("12 done", x.state(), 'd');
        Check.same("13 done", x.procedures(), 2);
        x.setBody(0, -1);
        Check.same("12 done, the body is gone", x.state(), 'd');
    }

    // Promises 14 and 15

    private static void known() {
        Bindtime x = Build.with("(+ (c 1 (n 4) (n 5)) (+ (c 2 (n 6) (p 1)) (c 3 (p 1) (n 7))))", "(i)", "(i)", "(i)");
        for (int i : new int[] {-1, 0, 1}) {
            answers("14 none was begun " + i, () -> x.original(i), STATE);
            answers("15 none was begun " + i, () -> x.known(i, 0), STATE);
        }
        x.setAhead(0);
        x.begin(MIN);
        answers("14 not found yet", () -> x.original(1), INDEX);
        answers("15 not found yet", () -> x.known(1, 0), INDEX);
        x.make();
        int[] originals = {0, 1, 2, 3};
        Object[][] due = {{MIN, ELEMENT}, {4, 5}, {6, ELEMENT}, {ELEMENT, 7}};
        for (int turn = 0; turn < 2; turn++) {
            for (int i = 0; i < 4; i++) {
                int made = i;
                answers("14 original " + i, () -> x.original(made), originals[i]);
                answers("15 first number " + i, () -> x.known(made, 0), due[i][0]);
                answers("15 second number " + i, () -> x.known(made, 1), due[i][1]);
                for (int wrong : new int[] {-1, 2, MIN, MAX}) {
                    answers("15 no number " + i + " " + wrong, () -> x.known(made, wrong), INDEX);
                }
            }
            for (int wrong : new int[] {-1, 4, 11, 12, MIN, MAX}) {
                answers("14 no made procedure " + wrong, () -> x.original(wrong), INDEX);
                answers("15 no made procedure, late or not " + wrong, () -> x.known(wrong, 0), INDEX);
                answers("15 no made procedure " + wrong, () -> x.known(wrong, 1), INDEX);
            }
            if (turn == 0) {
                x.makeAll();
            }
        }
    }

    // Promises 16 and 17

    private static void sizes() {
        Bindtime x = Build.with("(c 1 (p 1) (p 0))", "(; (o (p 0)) (i))");
        for (int i : new int[] {-1, 0, 1}) {
            answers("16 none was begun " + i, () -> x.sizeOf(i), STATE);
            answers("17 none was begun " + i, () -> x.countOf(i, 'n'), STATE);
        }
        x.begin(0);
        answers("16 waits", () -> x.sizeOf(0), STATE);
        x.make();
        answers("16 one is made, one waits", () -> x.sizeOf(0), STATE);
        answers("17 one is made, one waits", () -> x.countOf(0, 'c'), STATE);
        x.make();
        answers("16 done", () -> x.sizeOf(0), 2);
        answers("16 last one", () -> x.sizeOf(1), 4);
        for (int wrong : new int[] {-1, 2, 12, MIN, MAX}) {
            answers("16 no made procedure " + wrong, () -> x.sizeOf(wrong), INDEX);
            answers("17 no made procedure " + wrong, () -> x.countOf(wrong, 'c'), INDEX);
            answers("17 no made procedure, no kind " + wrong, () -> x.countOf(wrong, '!'), INDEX);
        }
        int sum = 0;
        for (char kind = 0; kind < 0xffff; kind++) {
            int count = x.countOf(1, kind);
            sum += count;
            if (Build.KINDS.indexOf(kind) < 0 && count != 0) {
                Check.same("17 no kind " + (int) kind, count, 0);
            }
        }
        Check.same("17 all kinds together are the size", sum, 4);
        answers("17 a kind of which there is none", () -> x.countOf(1, 'd'), 0);
        answers("17 no kind", () -> x.countOf(1, '!'), 0);
        x.begin(0);
        answers("16 begun again", () -> x.sizeOf(0), STATE);
        Bindtime failed = Build.failed();
        answers("16 failed", () -> failed.sizeOf(0), STATE);
        answers("17 failed", () -> failed.countOf(0, 'n'), STATE);
    }

    // Promise 25: "with the early number of the making, a late one, and 2000 steps"

    /** A body of so many steps, an odd number, that gives what its last node gives. */
    private static String steps(int count, String last) {
        StringBuilder tree = new StringBuilder(last);
        for (int left = count - 1; left > 0;) {
            int depth = 0;
            while (depth < 9 && (4 << depth) <= left) {
                depth++;
            }
            String part = "(i)";
            for (int i = 0; i < depth; i++) {
                part = "(+ " + part + " " + part + ")";
            }
            // A tree of 2 to the power of (depth + 1) nodes with its ';'.
            tree.insert(0, "(; " + part + " ").append(')');
            left -= 2 << depth;
        }
        return tree.toString();
    }

    private static void isLike() {
        Bindtime x = Build.done(4, "(p 0)");
        Check.same("25 the early number of the making", x.isLike(0), true);
        for (int count : new int[] {1999, 2001}) {
            Bindtime y = Build.done(4, "(p 0)");
            new Trees(y).body(0, steps(count, "(n 5)"));
            y.run(false, 4, 0, 2000);
            Check.same("25 steps as they were built", y.steps(), Math.min(count, 2000));
            Check.same("25 unlike in " + count + " steps", y.isLike(0), count > 2000);
            answers("26 in " + count + " steps", () -> y.gain(0), count > 2000 ? ARITHMETIC : (Object) (1.0f / count));
        }
        Bindtime even = Build.done(4, "(p 0)");
        new Trees(even).body(0, "(o " + steps(1999, "(n 5)") + ")");
        Check.same("25 unlike in 2000 steps", even.isLike(0), false);
        answers("26 in 2000 steps", () -> even.gain(0), 1.0f / 2000);
        Bindtime late = Build.done(4, "(p 1)");
        for (int number : new int[] {MIN, -1, 0, 1, MAX}) {
            Check.same("25 late " + number, late.isLike(number), true);
        }
        new Trees(late).body(0, "(? (= (p 1) (n 3)) (n 4) (p 1))");
        Check.same("25 unlike for one late number", late.isLike(3), false);
        Check.same("25 like for the one before", late.isLike(2), true);
        Check.same("25 like for the next one", late.isLike(4), true);
    }

    // "or both end alike, with the same number, cells and numbers that were put out"

    private static void isLikeInAll() {
        for (int cell = 0; cell < 4; cell++) {
            Bindtime x = Build.done(4, "(; (w " + cell + " (p 1)) (n 1))");
            Trees trees = new Trees(x);
            Check.same("25 the same cell " + cell, x.isLike(5), true);
            trees.body(0, "(; (w " + cell + " (n 5)) (n 1))");
            Check.same("25 the same in this cell " + cell, x.isLike(5), true);
            Check.same("25 not the same in this cell " + cell, x.isLike(6), false);
        }
        String[] outs = {"1 2 3", "1 2 4", "1 5 3", "6 2 3", "1 2", "2 3", "1 2 3 3", ""};
        for (String one : outs) {
            for (String other : outs) {
                Bindtime x = Build.done(4, putting(one));
                new Trees(x).body(0, putting(other));
                Check.same("25 put out " + one + " and " + other, x.isLike(0), one.equals(other));
            }
        }
        String[] ends = {"(n 5)", "(n 6)", "(d (n 5))", "(d (n 6))", "(; (o (n 5)) (n 5))", "(; (w 0 (n 5)) (n 5))"};
        for (String one : ends) {
            for (String other : ends) {
                Bindtime x = Build.done(4, one);
                new Trees(x).body(0, other);
                Check.same("25 ends " + one + " and " + other, x.isLike(0), one.equals(other));
            }
            Bindtime x = Build.done(4, one);
            new Trees(x).body(0, "(c 0 (p 1) (p 1))");
            Check.same("25 the original is over, made " + one, x.isLike(0), true);
            answers("26 the original is over, made " + one, () -> x.gain(0), ARITHMETIC);
            Bindtime y = Build.done(4, "(c 0 (p 1) (p 1))");
            new Trees(y).body(0, one);
            Check.same("25 the made one is over, original " + one, y.isLike(0), true);
            answers("26 the made one is over, original " + one, () -> y.gain(0), ARITHMETIC);
        }
    }

    private static String putting(String numbers) {
        String tree = "(n 9)";
        for (int i = numbers.length() - 1; i >= 0; i -= 2) {
            tree = "(; (o (n " + numbers.charAt(i) + ")) " + tree + ")";
        }
        return tree;
    }

    // "which are no runs by themselves"

    private static void isLikeIsNoRun() {
        Bindtime x = Build.done(3, "(; (o (p 0)) (; (w 1 (p 1)) (i)))");
        x.isLike(1);
        x.gain(1);
        x.isConsistent();
        answers("19 no run", x::result, STATE);
        answers("20 no run", x::steps, STATE);
        answers("21 no run", () -> x.cell(0), STATE);
        answers("22 no run", x::outputs, STATE);
        answers("23 no run", () -> x.output(0), STATE);
        answers("24 no run", x::allSteps, 0L);
        x.addInput(8);
        x.run(false, 2, 5, 100);
        String before = Build.lastRun(x);
        x.isLike(1);
        x.gain(1);
        x.isConsistent();
        Check.same("25 to 28 the last run stays", Build.lastRun(x), before);
        answers("24 steps of the one run", x::allSteps, 7L);
    }

    // Promise 26

    private static void gain() {
        Bindtime x = Build.done(4, "(+ (p 0) (n 1))");
        Check.same("26 one step by three", x.gain(0), 1.0f / 3.0f);
        Check.same("26 one step by one", Build.done(4, "(n 5)").gain(0), 1.0f);
        Bindtime same = Build.done(4, "(+ (p 1) (i))");
        Check.same("26 as many", same.gain(0), 1.0f);
        Bindtime more = Build.done(4, "(w 2 (n 1))");
        Check.same("26 more", more.gain(0), 4.0f / 2.0f);
        Bindtime thrown = Build.done(4, "(d (+ (p 0) (n 1)))");
        Check.same("26 thrown out of both", thrown.gain(0), 2.0f / 4.0f);
        Bindtime over = Build.done(10, Build.POWER);
        answers("26 the made one is over", () -> over.gain(0), ARITHMETIC);
        Check.same("25 the made one is over", over.isLike(0), true);
        Bindtime nine = Build.done(9, Build.POWER);
        Check.same("26 ten are run", nine.gain(1) > 0.0f, true);
        nine.setBody(0, -1);
        answers("26 no body", () -> nine.gain(0), STATE);
        answers("25 no body", () -> nine.isLike(0), STATE);
    }

    // Promise 27: "their sum divided by their number, both converted to double"

    private static void meanSize() {
        Check.same("27 one node in one", Build.done(0, "(n 1)").meanSize(), 1.0);
        Bindtime three = Build.done(0, "(+ (c 1 (p 1) (p 1)) (c 2 (p 1) (p 1)))", "(n 1)", "(n 1)");
        Check.same("27 not a whole number", three.meanSize(), 9.0 / 3.0);
        Bindtime other = Build.done(0, "(+ (c 1 (p 1) (p 1)) (c 2 (p 1) (p 1)))", "(n 1)", "(o (p 1))");
        Check.same("27 a third", other.meanSize(), 10.0 / 3.0);
        Bindtime none = Build.with("(n 1)");
        answers("27 none was begun", none::meanSize, STATE);
        none.begin(0);
        answers("27 not done", none::meanSize, STATE);
    }

    // Promise 28: "if a making is done, and no body was set since it began"

    private static void isConsistent() {
        Bindtime x = Build.with("(p 1)");
        Check.same("28 none was begun", x.isConsistent(), true);
        x.begin(4);
        Check.same("28 one waits", x.isConsistent(), true);
        new Trees(x).body(0, "(+ (p 1) (n 1))");
        x.makeAll();
        Check.same("28 a body was set before it was done", x.isConsistent(), true);
        Check.same("28 they are not like one another", x.isLike(0), false);
        x.begin(4);
        x.makeAll();
        Check.same("28 none was set since", x.isConsistent(), true);
        x.setBody(0, 0);
        Check.same("28 a body was set since it was done", x.isConsistent(), true);
        x.setBody(0, -1);
        Check.same("28 no body at all", x.isConsistent(), true);
        Check.same("28 has failed", Build.failed().isConsistent(), true);
        Check.same("28 both are over", Build.done(0, "(c 0 (p 1) (p 1))").isConsistent(), true);
    }

    // "no two made procedures have the same procedure and known numbers": those that are alike in part are no such two

    private static void noTwoAlike() {
        String[] calls = {"(+ (c 1 (n 5) (p 1)) (+ (c 1 (n 5) (n 7)) (+ (c 1 (p 1) (n 5)) (c 1 (p 1) (n 7)))))",
            "(+ (c 1 (n 0) (p 1)) (+ (c 1 (p 1) (n 0)) (+ (c 1 (n 0) (n 0)) (c 1 (p 1) (p 1)))))",
            "(+ (c 1 (n 5) (n 6)) (+ (c 1 (n 7) (n 8)) (+ (c 2 (n 5) (n 6)) (c 2 (n 7) (n 8)))))"};
        for (String tree : calls) {
            Bindtime x = Build.with(tree, "(- (p 0) (p 1))", "(- (p 1) (p 0))");
            x.setAhead(0);
            x.setMade(4);
            x.begin(0);
            Check.same("28 alike in part, made", x.makeAll(), 5);
            Check.same("28 alike in part " + tree, x.isConsistent(), true);
        }
    }
}
