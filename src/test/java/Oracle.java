import java.util.ArrayList;
import java.util.LinkedHashMap;
import java.util.List;
import java.util.Map;
import java.util.NoSuchElementException;

/**
 * The document once more, written as plainly as its words stand: recursive, with objects, lists and exceptions, and
 * nothing shared with Bindtime. FuzzTest holds both against one another.
 */
final class Oracle {
    static final class Thrown extends RuntimeException {
        final int number;

        Thrown(int number) {
            super(null, null, false, false);
            this.number = number;
        }
    }

    static final class Over extends RuntimeException {
        Over() {
            super(null, null, false, false);
        }
    }

    static final class Failing extends RuntimeException {
        Failing() {
            super(null, null, false, false);
        }
    }

    /** A node of a program or of a made one: numbers that are no parts in a, parts in the list. */
    static final class Node {
        final char kind;
        final int a;
        final List<Node> parts;

        Node(char kind, int a, Node... parts) {
            this.kind = kind;
            this.a = a;
            this.parts = List.of(parts);
        }

        int size() {
            int sum = 1;
            for (Node part : parts) {
                sum += part.size();
            }
            return sum;
        }

        int count(char which) {
            int sum = kind == which ? 1 : 0;
            for (Node part : parts) {
                sum += part.count(which);
            }
            return sum;
        }

        boolean idle() {
            if ("npxr".indexOf(kind) >= 0) {
                return true;
            }
            return "+-*<=".indexOf(kind) >= 0 && parts.get(0).idle() && parts.get(1).idle();
        }
    }

    // ---- programs

    final List<Node> nodes = new ArrayList<>();
    final List<int[]> raw = new ArrayList<>();
    final Node[] bodies = new Node[5];
    final int[] bodyNumbers = {-1, -1, -1, -1, -1};
    final List<Integer> inputs = new ArrayList<>();
    int ahead = 4;
    int mostMade = 3;

    static String partsOf(char kind) {
        switch (kind) {
            case 'n': case 'p': case 'x': case 'r': case 'i': return "";
            case 's': case 'w': return "b";
            case 'o': case 'd': return "a";
            case 'c': return "bc";
            case '?': return "abc";
            default: return "ab";
        }
    }

    int addNode(char kind, int a, int b, int c) {
        if ("npxsrw+-*<=/?;ciodt".indexOf(kind) < 0) {
            throw new IllegalArgumentException();
        }
        String parts = partsOf(kind);
        if (parts.indexOf('a') < 0) {
            int low = kind == 'n' ? -999 : 0;
            int high = kind == 'n' ? 999 : kind == 'p' ? 1 : kind == 'c' ? 4 : kind == 'i' ? 0 : 3;
            if (a < low || a > high) {
                throw new IllegalArgumentException();
            }
        }
        if (parts.indexOf('b') < 0 && b != 0 || parts.indexOf('c') < 0 && c != 0) {
            throw new IllegalArgumentException();
        }
        List<Node> list = new ArrayList<>();
        int[] numbers = {a, b, c};
        for (int i = 0; i < 3; i++) {
            if (parts.indexOf("abc".charAt(i)) >= 0) {
                if (numbers[i] < 0 || numbers[i] >= nodes.size()) {
                    throw new IndexOutOfBoundsException();
                }
                list.add(nodes.get(numbers[i]));
            }
        }
        if (nodes.size() == 48) {
            throw new IllegalStateException();
        }
        nodes.add(new Node(kind, parts.indexOf('a') < 0 ? a : 0, list.toArray(new Node[0])));
        return nodes.size() - 1;
    }

    int setBody(int procedure, int node) {
        if (procedure < 0 || procedure > 4 || node < -1 || node >= nodes.size()) {
            throw new IndexOutOfBoundsException();
        }
        int before = bodyNumbers[procedure];
        bodyNumbers[procedure] = node;
        bodies[procedure] = node < 0 ? null : nodes.get(node);
        bodySet = true;
        return before;
    }

    int addInput(int number) {
        if (inputs.size() == 8) {
            throw new IllegalStateException();
        }
        inputs.add(number);
        return inputs.size();
    }

    int clearInputs() {
        int before = inputs.size();
        inputs.clear();
        return before;
    }

    int setAhead(int calls) {
        if (calls < 0 || calls > 6) {
            throw new IllegalArgumentException();
        }
        int before = ahead;
        ahead = calls;
        return before;
    }

    int setMade(int procedures) {
        if (procedures < 1 || procedures > 4) {
            throw new IllegalArgumentException();
        }
        int before = mostMade;
        mostMade = procedures;
        return before;
    }

    /** Goes through all sets and takes the greatest one that the document allows: their union. */
    boolean isEarly(int procedure, int number) {
        if (procedure < 0 || procedure > 4 || number < 0 || number > 1) {
            throw new IndexOutOfBoundsException();
        }
        int union = 0;
        for (int set = 0; set < 1 << 10; set++) {
            if ((set & 2) == 0 && allows(set)) {
                union |= set;
            }
        }
        return (union >> (2 * procedure + number) & 1) == 1;
    }

    boolean allows(int set) {
        for (int p = 0; p < 5; p++) {
            if (bodies[p] != null && !allowsCalls(set, p, bodies[p], new ArrayList<>())) {
                return false;
            }
        }
        return true;
    }

    boolean allowsCalls(int set, int p, Node node, List<Node> seen) {
        if (seen.contains(node)) {
            return true;
        }
        seen.add(node);
        if (node.kind == 'c') {
            for (int i = 0; i < 2; i++) {
                if ((set >> (2 * node.a + i) & 1) == 1 && !isEarlyNode(set, p, node.parts.get(i))) {
                    return false;
                }
            }
        }
        for (Node part : node.parts) {
            if (!allowsCalls(set, p, part, seen)) {
                return false;
            }
        }
        return true;
    }

    boolean isEarlyNode(int set, int p, Node node) {
        if (node.kind == 'n') {
            return true;
        }
        if (node.kind == 'p') {
            return (set >> (2 * p + node.a) & 1) == 1;
        }
        return "+-*<=".indexOf(node.kind) >= 0 && isEarlyNode(set, p, node.parts.get(0))
                && isEarlyNode(set, p, node.parts.get(1));
    }

    // ---- making

    /** Known if the node is null. */
    static final class Val {
        final int number;
        final Node node;

        Val(int number) {
            this.number = number;
            this.node = null;
        }

        Val(Node node) {
            this.number = 0;
            this.node = node;
        }

        boolean known() {
            return node == null;
        }

        Node asNode() {
            return known() ? new Node('n', number) : node;
        }
    }

    static final class Made {
        final int procedure;
        final Integer[] known;
        Node body;

        Made(int procedure, Integer first, Integer second) {
            this.procedure = procedure;
            this.known = new Integer[] {first, second};
        }
    }

    /** A procedure that is made or carried out ahead. */
    static final class Act {
        final Val[] numbers;
        final int base;

        Act(Val first, Val second, int base) {
            this.numbers = new Val[] {first, second};
            this.base = base;
        }
    }

    char state = '-';
    int early;
    boolean bodySet;
    int madeAhead;
    int madeMost;
    Node[] madeBodies;
    final List<Made> made = new ArrayList<>();
    int done;

    int begin(int early) {
        if (bodies[0] == null) {
            throw new IllegalStateException();
        }
        this.early = early;
        bodySet = false;
        madeAhead = ahead;
        madeMost = mostMade;
        madeBodies = bodies.clone();
        made.clear();
        made.add(new Made(0, early, null));
        done = 0;
        state = 'w';
        return 1;
    }

    int make() {
        if (state == '-' || state == 'd') {
            throw new IllegalStateException();
        }
        if (state == 'f') {
            throw new UnsupportedOperationException();
        }
        try {
            Made next = made.get(done);
            next.body = new Maker().body(next);
            int sum = 0;
            for (int i = 0; i <= done; i++) {
                sum += made.get(i).body.size();
            }
            if (sum > 300) {
                throw new Failing();
            }
        } catch (Failing e) {
            state = 'f';
            return -1;
        }
        done++;
        if (done == made.size()) {
            state = 'd';
        }
        return made.size() - done;
    }

    int makeAll() {
        int count = 0;
        int waiting;
        do {
            waiting = make();
            if (waiting >= 0) {
                count++;
            }
        } while (waiting > 0);
        return count;
    }

    final class Maker {
        /** What is known: cells "w0".., slots of the made procedure "s0"..; in the document's order. */
        Map<String, Integer> known = new LinkedHashMap<>();
        final List<Act> acts = new ArrayList<>();
        int slots;
        int count;
        int tries;

        Node body(Made what) {
            List<Val> numbers = new ArrayList<>();
            int late = 0;
            for (Integer number : what.known) {
                numbers.add(number == null ? new Val(new Node('p', late++)) : new Val(number));
            }
            open(numbers.get(0), numbers.get(1));
            List<Node> row = new ArrayList<>();
            Val value = make(madeBodies[what.procedure], row);
            if (knows(cells())) {
                value = settle(value, row);
                carry(cells(), row);
            }
            return asOne(row, value.asNode());
        }

        void open(Val first, Val second) {
            acts.add(new Act(first, second, slots));
            for (int i = 0; i < 4; i++) {
                known.put("s" + slots++, 0);
            }
        }

        Act act() {
            return acts.get(acts.size() - 1);
        }

        List<String> cells() {
            return List.of("w0", "w1", "w2", "w3");
        }

        List<String> slots() {
            List<String> all = new ArrayList<>();
            for (Act act : acts) {
                for (int i = 0; i < 4; i++) {
                    all.add("s" + (act.base + i));
                }
            }
            return all;
        }

        List<String> all() {
            List<String> all = new ArrayList<>(cells());
            all.addAll(slots());
            return all;
        }

        boolean knows(List<String> items) {
            for (String item : items) {
                if (known.containsKey(item)) {
                    return true;
                }
            }
            return false;
        }

        Node carried(String item, int number) {
            return new Node(item.charAt(0), Integer.parseInt(item.substring(1)), new Node('n', number));
        }

        void carry(List<String> items, List<Node> row) {
            for (String item : items) {
                if (known.containsKey(item)) {
                    row.add(carried(item, known.remove(item)));
                }
            }
        }

        Val settle(Val value, List<Node> row) {
            if (value.known() || value.node.kind == 'p') {
                return value;
            }
            int slot = slots++;
            row.add(new Node('s', slot, value.node));
            return new Val(new Node('x', slot));
        }

        Val[] safe(List<Node> row, Val... values) {
            List<String> items = tries > 0 ? all() : cells();
            if (knows(items)) {
                for (int i = 0; i < values.length; i++) {
                    values[i] = settle(values[i], row);
                }
                carry(items, row);
            }
            return values;
        }

        Node asOne(List<Node> row, Node value) {
            if (row.isEmpty()) {
                return value;
            }
            return new Node(';', 0, row.get(0), asOne(row.subList(1, row.size()), value));
        }

        Val[] two(Node first, Node second, List<Node> row) {
            List<Node> ahead1 = new ArrayList<>();
            List<Node> ahead2 = new ArrayList<>();
            Val value1 = make(first, ahead1);
            Val value2 = make(second, ahead2);
            if (!ahead2.isEmpty()) {
                value1 = settle(value1, ahead1);
            }
            row.addAll(ahead1);
            row.addAll(ahead2);
            return new Val[] {value1, value2};
        }

        Val look(String item, char kind) {
            if (known.containsKey(item)) {
                return new Val(known.get(item));
            }
            return new Val(new Node(kind, Integer.parseInt(item.substring(1))));
        }

        Val assign(String item, Val value) {
            if (value.known()) {
                known.put(item, value.number);
                return value;
            }
            known.remove(item);
            return new Val(new Node(item.charAt(0), Integer.parseInt(item.substring(1)), value.node));
        }

        Val make(Node node, List<Node> row) {
            if (count == 600) {
                throw new Failing();
            }
            count++;
            List<Node> parts = node.parts;
            switch (node.kind) {
                case 'n': return new Val(node.a);
                case 'p': return act().numbers[node.a];
                case 'x': return look("s" + (act().base + node.a), 'x');
                case 'r': return look("w" + node.a, 'r');
                case 's': return assign("s" + (act().base + node.a), make(parts.get(0), row));
                case 'w': return assign("w" + node.a, make(parts.get(0), row));
                case 'i': return new Val(new Node('i', 0));
                case 'o': {
                    Val value = make(parts.get(0), row);
                    Node out = new Node('o', 0, value.asNode());
                    if (!value.known()) {
                        return new Val(out);
                    }
                    row.add(out);
                    return value;
                }
                case 'd': {
                    Val value = safe(row, make(parts.get(0), row))[0];
                    return new Val(new Node('d', 0, value.asNode()));
                }
                case ';': {
                    Val value = make(parts.get(0), row);
                    if (!value.known() && !value.node.idle()) {
                        row.add(value.node);
                    }
                    return make(parts.get(1), row);
                }
                case '?': return choice(node, row);
                case 't': return attempt(node, row);
                case 'c': return call(node, row);
                default: return pair(node, row);
            }
        }

        Val pair(Node node, List<Node> row) {
            Val[] v = two(node.parts.get(0), node.parts.get(1), row);
            boolean zero = v[1].known() && v[1].number == 0;
            if (v[0].known() && v[1].known() && !(node.kind == '/' && zero)) {
                return new Val(reckon(node.kind, v[0].number, v[1].number));
            }
            if (node.kind == '/' && (!v[1].known() || zero)) {
                v = safe(row, v);
            }
            return new Val(new Node(node.kind, 0, v[0].asNode(), v[1].asNode()));
        }

        Val choice(Node node, List<Node> row) {
            Val test = make(node.parts.get(0), row);
            if (test.known()) {
                return make(node.parts.get(test.number != 0 ? 1 : 2), row);
            }
            Map<String, Integer> behindTest = new LinkedHashMap<>(known);
            List<Node> row1 = new ArrayList<>();
            Val value1 = make(node.parts.get(1), row1);
            Map<String, Integer> behind1 = known;
            known = behindTest;
            List<Node> row2 = new ArrayList<>();
            Val value2 = make(node.parts.get(2), row2);
            Map<String, Integer> behind2 = known;
            Map<String, Integer> both = new LinkedHashMap<>();
            List<String> carried1 = new ArrayList<>();
            List<String> carried2 = new ArrayList<>();
            for (String item : all()) {
                Integer number1 = behind1.get(item);
                Integer number2 = behind2.get(item);
                if (number1 != null && number1.equals(number2)) {
                    both.put(item, number1);
                    continue;
                }
                if (number1 != null) {
                    carried1.add(item);
                }
                if (number2 != null) {
                    carried2.add(item);
                }
            }
            known = behind1;
            if (!carried1.isEmpty()) {
                value1 = settle(value1, row1);
                carry(carried1, row1);
            }
            known = behind2;
            if (!carried2.isEmpty()) {
                value2 = settle(value2, row2);
                carry(carried2, row2);
            }
            known = both;
            if (value1.known() && value2.known() && value1.number == value2.number) {
                if (!row1.isEmpty() || !row2.isEmpty()) {
                    row.add(new Node('?', 0, test.node, asOne(row1, new Node('n', 0)), asOne(row2, new Node('n', 0))));
                } else if (!test.node.idle()) {
                    row.add(test.node);
                }
                return value1;
            }
            return new Val(new Node('?', 0, test.node, asOne(row1, value1.asNode()), asOne(row2, value2.asNode())));
        }

        Val attempt(Node node, List<Node> row) {
            carry(all(), row);
            tries++;
            Node first = closed(node.parts.get(0), 1);
            Node second = closed(node.parts.get(1), 0);
            return new Val(new Node('t', 0, first, second));
        }

        Node closed(Node part, int triesLess) {
            List<Node> row = new ArrayList<>();
            Val value = make(part, row);
            tries -= triesLess;
            if (knows(all())) {
                value = settle(value, row);
                carry(all(), row);
            }
            return asOne(row, value.asNode());
        }

        Val call(Node node, List<Node> row) {
            Val[] v = two(node.parts.get(0), node.parts.get(1), row);
            if (madeBodies[node.a] == null) {
                for (Val value : v) {
                    if (!value.known() && !value.node.idle()) {
                        row.add(value.node);
                    }
                }
                return new Val(0);
            }
            if (v[0].known() && acts.size() - 1 < madeAhead) {
                Val second = settle(v[1], row);
                open(v[0], second);
                Val value = make(madeBodies[node.a], row);
                for (int i = 0; i < 4; i++) {
                    known.remove("s" + (act().base + i));
                }
                acts.remove(acts.size() - 1);
                return value;
            }
            v = safe(row, v);
            int found = find(node.a, v[0].known() ? (Integer) v[0].number : null,
                    v[1].known() ? (Integer) v[1].number : null);
            List<Node> late = new ArrayList<>();
            for (int i = 0; i < 2; i++) {
                if (made.get(found).known[i] == null) {
                    late.add(v[i].asNode());
                }
            }
            for (String cell : cells()) {
                known.remove(cell);
            }
            return new Val(new Node('c', found, late.toArray(new Node[0])));
        }
    }

    int find(int procedure, Integer first, Integer second) {
        int same = 0;
        int general = -1;
        for (int i = 0; i < made.size(); i++) {
            Made m = made.get(i);
            if (m.procedure != procedure) {
                continue;
            }
            same++;
            if (java.util.Objects.equals(m.known[0], first) && java.util.Objects.equals(m.known[1], second)) {
                return i;
            }
            if (m.known[0] == null && m.known[1] == null) {
                general = i;
            }
        }
        if (same >= madeMost) {
            if (general >= 0) {
                return general;
            }
            first = null;
            second = null;
        }
        if (made.size() == 12) {
            throw new Failing();
        }
        made.add(new Made(procedure, first, second));
        return made.size() - 1;
    }

    char state() {
        return state;
    }

    int procedures() {
        begun();
        return made.size();
    }

    int original(int which) {
        begun();
        there(which);
        return made.get(which).procedure;
    }

    int known(int which, int number) {
        begun();
        there(which);
        if (number < 0 || number > 1) {
            throw new IndexOutOfBoundsException();
        }
        Integer known = made.get(which).known[number];
        if (known == null) {
            throw new NoSuchElementException();
        }
        return known;
    }

    int sizeOf(int which) {
        isDone();
        there(which);
        return made.get(which).body.size();
    }

    int countOf(int which, char kind) {
        isDone();
        there(which);
        return made.get(which).body.count(kind);
    }

    void begun() {
        if (state == '-') {
            throw new IllegalStateException();
        }
    }

    void isDone() {
        if (state != 'd') {
            throw new IllegalStateException();
        }
    }

    void there(int which) {
        if (which < 0 || which >= made.size()) {
            throw new IndexOutOfBoundsException();
        }
    }

    // ---- runs

    static int reckon(char kind, int x, int y) {
        switch (kind) {
            case '+': return x + y;
            case '-': return x - y;
            case '*': return x * y;
            case '<': return x < y ? 1 : 0;
            case '=': return x == y ? 1 : 0;
            default:
                if (y == 0) {
                    throw new Thrown(900);
                }
                return x / y;
        }
    }

    final class Run {
        final boolean isMade;
        final int allowed;
        final int[] cells = new int[4];
        final List<Integer> out = new ArrayList<>();
        int read;
        int steps;
        int running;
        int depth;
        char end;
        int result;

        Run(boolean isMade, int first, int second, int allowed) {
            this.isMade = isMade;
            this.allowed = allowed;
            try {
                result = call(0, first, second);
                end = 'e';
            } catch (Thrown e) {
                result = e.number;
                end = 'd';
            } catch (Over e) {
                end = 'l';
            }
        }

        int call(int procedure, int first, int second) {
            Node body = isMade ? made.get(procedure).body : bodies[procedure];
            if (body == null) {
                return 0;
            }
            if (running == 10) {
                throw new Over();
            }
            running++;
            try {
                return ask(body, new int[] {first, second}, new LinkedHashMap<>());
            } finally {
                running--;
            }
        }

        int ask(Node node, int[] numbers, Map<Integer, Integer> slots) {
            if (steps == allowed || depth == 200) {
                throw new Over();
            }
            steps++;
            depth++;
            try {
                return give(node, numbers, slots);
            } finally {
                depth--;
            }
        }

        int give(Node node, int[] numbers, Map<Integer, Integer> slots) {
            if (node.kind == '?') {
                return ask(node.parts.get(ask(node.parts.get(0), numbers, slots) != 0 ? 1 : 2), numbers, slots);
            }
            if (node.kind == 't') {
                try {
                    return ask(node.parts.get(0), numbers, slots);
                } catch (Thrown e) {
                    cells[3] = e.number;
                }
                return ask(node.parts.get(1), numbers, slots);
            }
            int[] got = new int[2];
            for (int i = 0; i < node.parts.size(); i++) {
                got[i] = ask(node.parts.get(i), numbers, slots);
            }
            switch (node.kind) {
                case 'n': return node.a;
                case 'p': return numbers[node.a];
                case 'x': return slots.getOrDefault(node.a, 0);
                case 'r': return cells[node.a];
                case 's': slots.put(node.a, got[0]); return got[0];
                case 'w': cells[node.a] = got[0]; return got[0];
                case 'i': return read < inputs.size() ? inputs.get(read++) : 0;
                case 'o': out.add(got[0]); return got[0];
                case 'd': throw new Thrown(got[0]);
                case ';': return got[1];
                case 'c': return call(node.a, got[0], got[1]);
                default: return reckon(node.kind, got[0], got[1]);
            }
        }

        boolean like(Run other) {
            return end == 'l' || other.end == 'l' || end == other.end && result == other.result
                    && java.util.Arrays.equals(cells, other.cells) && out.equals(other.out);
        }
    }

    Run last;
    long allSteps;

    char run(boolean isMade, int early, int late, int steps) {
        if (bodies[0] == null || isMade && state != 'd') {
            throw new IllegalStateException();
        }
        if (steps < 1 || steps > 2000) {
            throw new IllegalArgumentException();
        }
        last = isMade ? new Run(true, late, 0, steps) : new Run(false, early, late, steps);
        allSteps += last.steps;
        return last.end;
    }

    void wasRun() {
        if (last == null) {
            throw new IllegalStateException();
        }
    }

    int result() {
        wasRun();
        return last.result;
    }

    int steps() {
        wasRun();
        return last.steps;
    }

    int cell(int cell) {
        wasRun();
        if (cell < 0 || cell > 3) {
            throw new IndexOutOfBoundsException();
        }
        return last.cells[cell];
    }

    int outputs() {
        wasRun();
        return last.out.size();
    }

    int output(int index) {
        wasRun();
        if (index < 0 || index >= last.out.size()) {
            throw new NoSuchElementException();
        }
        return last.out.get(index);
    }

    long allSteps() {
        return allSteps;
    }

    Run original(int late, boolean isMade) {
        isDone();
        if (bodies[0] == null) {
            throw new IllegalStateException();
        }
        return isMade ? new Run(true, late, 0, 2000) : new Run(false, early, late, 2000);
    }

    boolean isLike(int late) {
        return original(late, false).like(original(late, true));
    }

    float gain(int late) {
        Run first = original(late, false);
        Run second = original(late, true);
        if (first.end == 'l' || second.end == 'l') {
            throw new ArithmeticException();
        }
        return (float) second.steps / (float) first.steps;
    }

    double meanSize() {
        isDone();
        int sum = 0;
        for (Made m : made) {
            sum += m.body.size();
        }
        return (double) sum / (double) made.size();
    }

    boolean isConsistent() {
        if (state == 'd' && !bodySet) {
            for (int late = -2; late <= 3; late++) {
                if (!isLike(late)) {
                    return false;
                }
            }
        }
        return true;
    }
}
