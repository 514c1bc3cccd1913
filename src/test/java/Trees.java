import java.util.ArrayList;
import java.util.HashMap;
import java.util.List;
import java.util.Map;

/**
 * Trees of nodes as texts: "(+ (p 0) (n 3))". They are added to an object, equal ones once, or their nodes are
 * counted and held against a made procedure.
 */
final class Trees {
    private static final String KINDS = "npxsrw+-*<=/?;ciodt";

    private final Bindtime target;
    private final Map<String, Integer> added = new HashMap<>();
    private String text;
    private int at;

    Trees(Bindtime target) {
        this.target = target;
    }

    /** Adds a tree and makes it the body of a procedure. */
    Trees body(int procedure, String tree) {
        target.setBody(procedure, add(tree));
        return this;
    }

    int add(String tree) {
        text = tree;
        at = 0;
        return read();
    }

    private int read() {
        skip();
        int from = at;
        at++;
        char kind = text.charAt(at);
        at++;
        int[] numbers = new int[3];
        int count = 0;
        for (skip(); text.charAt(at) != ')'; skip()) {
            numbers[count] = text.charAt(at) == '(' ? read() : readNumber();
            count++;
        }
        at++;
        String node = text.substring(from, at).replaceAll("\\s+", " ");
        Integer known = added.get(node);
        if (known == null) {
            known = target.addNode(kind, numbers[0], numbers[1], numbers[2]);
            added.put(node, known);
        }
        return known;
    }

    private int readNumber() {
        int from = at;
        while (text.charAt(at) == '-' || Character.isDigit(text.charAt(at))) {
            at++;
        }
        return Integer.parseInt(text.substring(from, at));
    }

    private void skip() {
        while (text.charAt(at) == ' ') {
            at++;
        }
    }

    /** A tree as nodes of the oracle, so that one that was worked out by hand can be run. */
    static Oracle.Node parse(String tree) {
        Trees trees = new Trees(null);
        trees.text = tree;
        return trees.parseNode();
    }

    private Oracle.Node parseNode() {
        skip();
        char kind = text.charAt(at + 1);
        at += 2;
        int number = 0;
        List<Oracle.Node> parts = new ArrayList<>();
        for (skip(); text.charAt(at) != ')'; skip()) {
            if (text.charAt(at) == '(') {
                parts.add(parseNode());
            } else {
                number = readNumber();
            }
        }
        at++;
        return new Oracle.Node(kind, number, parts.toArray(new Oracle.Node[0]));
    }

    /** Runs what was made and the trees that are due beside one another, with each number of steps up to the end. */
    static void runsLike(String name, Bindtime x, int[] inputs, String... trees) {
        Oracle due = new Oracle();
        for (int number : inputs) {
            due.addInput(number);
        }
        due.addNode('i', 0, 0, 0);
        due.setBody(0, 0);
        due.state = 'd';
        for (String tree : trees) {
            Oracle.Made made = new Oracle.Made(0, null, null);
            made.body = parse(tree);
            due.made.add(made);
        }
        for (int late = -1; late < 3; late++) {
            char end = 'l';
            for (int steps = 1; steps <= 60 && end == 'l'; steps++) {
                end = x.run(true, 0, late, steps);
                String at = name + ", late " + late + ", steps " + steps;
                Check.same(at, end, due.run(true, 0, late, steps));
                Check.same(at + ", result", x.result(), due.result());
                Check.same(at + ", steps", x.steps(), due.steps());
                for (int cell = 0; cell < 4; cell++) {
                    Check.same(at + ", cell " + cell, x.cell(cell), due.cell(cell));
                }
                Check.same(at + ", outputs", x.outputs(), due.outputs());
                for (int i = 0; i < due.outputs(); i++) {
                    Check.same(at + ", output " + i, x.output(i), due.output(i));
                }
            }
        }
    }

    /** Holds the numbers of nodes of a made procedure against those of a tree; slots and numbers do not matter. */
    static void looksLike(String name, Bindtime x, int made, String tree) {
        int sum = 0;
        for (char kind : KINDS.toCharArray()) {
            int count = 0;
            for (int i = tree.indexOf("(" + kind); i >= 0; i = tree.indexOf("(" + kind, i + 1)) {
                count++;
            }
            sum += count;
            Check.same(name + ", nodes of kind " + kind, x.countOf(made, kind), count);
        }
        Check.same(name + ", size", x.sizeOf(made), sum);
    }
}
