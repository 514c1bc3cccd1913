import java.util.HashMap;
import java.util.Map;

/**
 * Trees of nodes as texts: "(+ (p 0) (n 3))". They are added to an object, equal ones once, or their nodes are
 * counted and held against a made procedure.
 */
final class Trees {
    private static final String KINDS = "npxsrw+-*<=/?;ciodt";

    private final Bindtime target;
    private final Map<String, Integer> added = new HashMap<>();
    private String text;
    private int at;

    Trees(Bindtime target) {
        this.target = target;
    }

    /** Adds a tree and makes it the body of a procedure. */
    Trees body(int procedure, String tree) {
        target.setBody(procedure, add(tree));
        return this;
    }

    int add(String tree) {
        text = tree;
        at = 0;
        return read();
    }

    private int read() {
        skip();
        int from = at;
        at++;
        char kind = text.charAt(at);
        at++;
        int[] numbers = new int[3];
        int count = 0;
        for (skip(); text.charAt(at) != ')'; skip()) {
            numbers[count] = text.charAt(at) == '(' ? read() : readNumber();
            count++;
        }
        at++;
        String node = text.substring(from, at).replaceAll("\\s+", " ");
        Integer known = added.get(node);
        if (known == null) {
            known = target.addNode(kind, numbers[0], numbers[1], numbers[2]);
            added.put(node, known);
        }
        return known;
    }

    private int readNumber() {
        int from = at;
        while (text.charAt(at) == '-' || Character.isDigit(text.charAt(at))) {
            at++;
        }
        return Integer.parseInt(text.substring(from, at));
    }

    private void skip() {
        while (text.charAt(at) == ' ') {
            at++;
        }
    }

    /** Holds the numbers of nodes of a made procedure against those of a tree; slots and numbers do not matter. */
    static void looksLike(String name, Bindtime x, int made, String tree) {
        int sum = 0;
        for (char kind : KINDS.toCharArray()) {
            int count = 0;
            for (int i = tree.indexOf("(" + kind); i >= 0; i = tree.indexOf("(" + kind, i + 1)) {
                count++;
            }
            sum += count;
            Check.same(name + ", nodes of kind " + kind, x.countOf(made, kind), count);
        }
        Check.same(name + ", size", x.sizeOf(made), sum);
    }
}
