import java.util.NoSuchElementException;

/** Runs of calls that a fixed row of numbers chooses, on Bindtime and on Oracle; each answer must be the same. */
public final class FuzzTest {
    private static final String KINDS = "npxsrw+-*<=/?;ciodt";
    /** From this style on, a procedure calls only those with higher numbers, so that most runs end. */
    private static final int LAYERED = 8;
    private static final int LAYER = 9;
    private static long seed;
    private static int wrong;
    private static int unlike;
    private static final int[] seen = new int[128];
    private static final StringBuilder trail = new StringBuilder();

    private interface Call {
        Object answer();
    }

    private static int below(int bound) {
        seed = seed * 6364136223846793005L + 1442695040888963407L;
        return (int) ((seed >>> 33) % bound);
    }

    private static Object outcome(Call call) {
        try {
            return call.answer();
        } catch (IllegalArgumentException | IndexOutOfBoundsException | IllegalStateException
                | UnsupportedOperationException | NoSuchElementException | ArithmeticException e) {
            return "throws " + e.getClass().getSimpleName();
        }
    }

    private static void same(String name, Call got, Call due) {
        Object is = outcome(got);
        Object want = outcome(due);
        trail.append(name).append(" -> ").append(is).append('\n');
        if (!is.equals(want)) {
            wrong++;
            if (wrong < 4) {
                System.out.println(trail + "   due is " + want);
            }
        }
    }

    public static void main(String[] args) {
        int rounds = args.length > 0 ? Integer.parseInt(args[0]) : 2000;
        int from = args.length > 1 ? Integer.parseInt(args[1]) : 1;
        for (int round = from; round < from + rounds && wrong == 0; round++) {
            seed = round * 7919L;
            trail.setLength(0);
            trail.append("round ").append(round).append('\n');
            play(round % 10);
        }
        System.out.println(rounds + " rounds; makings done " + seen['d'] + ", failed " + seen['f'] + "; runs ended "
                + seen['E'] + ", thrown " + seen['D'] + ", over " + seen['L'] + "; not like: " + unlike);
        if (wrong != 0) {
            System.exit(1);
        }
    }

    private static void play(int style) {
        Bindtime x = new Bindtime();
        Oracle y = new Oracle();
        if (style < LAYERED) {
            addNodes(x, y, style);
        } else {
            addLayers(x, y, style);
        }
        for (int turn = 0; turn < 12; turn++) {
            setSome(x, y, style);
            makeAndLook(x, y);
            runAndLook(x, y);
        }
    }

    private static void add(Bindtime x, Oracle y, char kind, int a, int b, int c) {
        same("addNode(" + kind + " " + a + " " + b + " " + c + ")", () -> x.addNode(kind, a, b, c),
                () -> y.addNode(kind, a, b, c));
    }

    private static int part(int size, int style) {
        // The last nodes are taken more often, so that trees become deep and big.
        return style % 2 == 0 || size < 4 ? below(size + (below(60) == 0 ? 1 : 0)) : size - 1 - below(4);
    }

    private static void addNodes(Bindtime x, Oracle y, int style) {
        add(x, y, 'p', 0, 0, 0);
        add(x, y, 'p', 1, 0, 0);
        String kinds = style < 2 ? KINDS : style < 4 ? "nnpxssrww+-*<=/?;;ccciodtt"
                : style < 6 ? "npxs+-<?;ccct" : "nprw+-/??;cccott";
        int size = style == 7 ? 60 : 10 + below(40);
        for (int i = 2; i < size; i++) {
            int count = y.nodes.size();
            char kind = kinds.charAt(below(kinds.length()));
            String parts = Oracle.partsOf(kind);
            int[] numbers = new int[3];
            for (int place = 0; place < 3; place++) {
                if (parts.indexOf("abc".charAt(place)) >= 0) {
                    numbers[place] = part(count, style);
                } else if (below(80) == 0) {
                    numbers[place] = below(9) - 2;
                }
            }
            if (parts.indexOf('a') < 0) {
                numbers[0] = kind == 'n' ? below(5) - 1 : kind == 'p' ? below(2) : kind == 'c' ? below(4)
                        : kind == 'i' ? 0 : below(4);
            }
            add(x, y, kind, numbers[0], numbers[1], numbers[2]);
        }
    }

    /** The nodes of procedure 4 first, and those of procedure 0 last. */
    private static void addLayers(Bindtime x, Oracle y, int style) {
        add(x, y, 'p', 0, 0, 0);
        add(x, y, 'p', 1, 0, 0);
        add(x, y, 'n', below(5) - 1, 0, 0);
        for (int i = 3; i < 3 + 5 * LAYER; i++) {
            int procedure = 4 - (i - 3) / LAYER;
            char kind = (style == LAYERED ? "xxsss+-cci;;;o?" : "xsrw+-/=cci;;;odt??").charAt(below(style == LAYERED ? 15 : 19));
            kind = kind == 'c' && procedure == 4 ? 's' : kind;
            String parts = Oracle.partsOf(kind);
            int[] numbers = new int[3];
            for (int place = 0; place < 3; place++) {
                if (parts.indexOf("abc".charAt(place)) >= 0) {
                    numbers[place] = below(2) == 0 ? below(3) : Math.max(below(3), i - 1 - below(5));
                }
            }
            if (parts.indexOf('a') < 0) {
                numbers[0] = kind == 'c' ? procedure + 1 + below(4 - procedure) : kind == 'i' ? 0 : below(2);
            }
            add(x, y, kind, numbers[0], numbers[1], numbers[2]);
        }
        for (int procedure = 0; procedure < 5; procedure++) {
            setBody(x, y, procedure, 2 + LAYER * (5 - procedure));
        }
    }

    private static void setBody(Bindtime x, Oracle y, int procedure, int node) {
        same("setBody(" + procedure + " " + node + ")", () -> x.setBody(procedure, node), () -> y.setBody(procedure, node));
    }

    private static void setSome(Bindtime x, Oracle y, int style) {
        for (int i = style < LAYERED ? below(4) + (style % 3) : -1; i >= 0; i--) {
            int procedure = below(40) == 0 ? 5 : below(5);
            int node = below(20) == 0 ? below(52) - 2 : y.nodes.size() - 1 - below(Math.min(12, y.nodes.size()));
            setBody(x, y, procedure, node);
        }
        if (style >= LAYERED && below(3) == 0) {
            int procedure = below(5);
            setBody(x, y, procedure, 2 + LAYER * (5 - procedure) - below(LAYER));
        }
        int ahead = below(9) - 1;
        int made = below(6);
        if (below(2) == 0) {
            same("setAhead(" + ahead + ")", () -> x.setAhead(ahead), () -> y.setAhead(ahead));
            same("setMade(" + made + ")", () -> x.setMade(made), () -> y.setMade(made));
        }
        if (below(3) == 0) {
            int number = below(7) - 3;
            same("addInput(" + number + ")", () -> x.addInput(number), () -> y.addInput(number));
        }
        if (below(40) == 0) {
            same("clearInputs()", () -> x.clearInputs(), () -> y.clearInputs());
        }
        if (below(3) == 0) {
            for (int i = -1; i < 11; i++) {
                int procedure = i / 2;
                int number = i < 0 ? -1 : i % 2;
                same("isEarly(" + procedure + " " + number + ")", () -> x.isEarly(procedure, number),
                        () -> y.isEarly(procedure, number));
            }
        }
    }

    private static void makeAndLook(Bindtime x, Oracle y) {
        int early = below(9) - 3;
        if (below(8) != 0) {
            same("begin(" + early + ")", () -> x.begin(early), () -> y.begin(early));
        }
        if (below(2) == 0) {
            same("make()", () -> x.make(), () -> y.make());
        }
        same("makeAll()", () -> x.makeAll(), () -> y.makeAll());
        same("state()", () -> x.state(), () -> y.state());
        seen[y.state]++;
        same("procedures()", () -> x.procedures(), () -> y.procedures());
        for (int i = -1; i <= y.made.size(); i++) {
            int made = i;
            same("original(" + made + ")", () -> x.original(made), () -> y.original(made));
            same("sizeOf(" + made + ")", () -> x.sizeOf(made), () -> y.sizeOf(made));
            for (int number = -1; number < 3; number++) {
                int which = number;
                same("known(" + made + " " + which + ")", () -> x.known(made, which), () -> y.known(made, which));
            }
            for (char kind : (KINDS + "!").toCharArray()) {
                same("countOf(" + made + " " + kind + ")", () -> x.countOf(made, kind), () -> y.countOf(made, kind));
            }
        }
        same("meanSize()", () -> x.meanSize(), () -> y.meanSize());
    }

    private static void runAndLook(Bindtime x, Oracle y) {
        for (int i = 0; i < 4; i++) {
            boolean isMade = i % 2 == 0;
            int early = below(2) == 0 ? y.early : below(5) - 2;
            int late = below(8) - 3;
            int steps = below(3) == 0 ? below(60) : below(2010);
            same("run(" + isMade + " " + early + " " + late + " " + steps + ")",
                    () -> x.run(isMade, early, late, steps), () -> y.run(isMade, early, late, steps));
            same("result()", () -> x.result(), () -> y.result());
            same("steps()", () -> x.steps(), () -> y.steps());
            same("outputs()", () -> x.outputs(), () -> y.outputs());
            for (int j = -1; j < 5; j++) {
                int index = j;
                same("cell(" + index + ")", () -> x.cell(index), () -> y.cell(index));
                same("output(" + index + ")", () -> x.output(index), () -> y.output(index));
            }
            if (y.last != null) {
                seen[Character.toUpperCase(y.last.end)]++;
            }
        }
        same("allSteps()", () -> x.allSteps(), () -> y.allSteps());
        int late = below(9) - 4;
        same("isLike(" + late + ")", () -> x.isLike(late), () -> y.isLike(late));
        same("gain(" + late + ")", () -> x.gain(late), () -> y.gain(late));
        same("isConsistent()", () -> x.isConsistent(), () -> y.isConsistent());
        if (!x.isConsistent()) {
            unlike++;
        }
    }
}
