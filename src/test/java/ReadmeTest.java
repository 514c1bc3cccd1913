import java.io.IOException;
import java.nio.file.Files;
import java.nio.file.Path;
import java.util.List;

/** Plays the run of calls that README.md tells, and holds each answer against the one that stands there. */
public final class ReadmeTest {
    private static List<String> lines;
    private static int line;

    public static void main(String[] args) throws IOException {
        lines = Files.readAllLines(Path.of("README.md"));
        Bindtime x = new Bindtime();
        build(x);
        make(x);
        run(x);
        makeWithLimit(x);
        Check.same("calls that were not played", next(), "none");
        Check.end("ReadmeTest");
    }

    private static void build(Bindtime x) {
        tells("addNode('p', 0, 0, 0)", () -> x.addNode('p', 0, 0, 0));
        tells("addNode('p', 1, 0, 0)", () -> x.addNode('p', 1, 0, 0));
        tells("addNode('n', 1, 0, 0)", () -> x.addNode('n', 1, 0, 0));
        tells("addNode('-', 0, 2, 0)", () -> x.addNode('-', 0, 2, 0));
        tells("addNode('c', 0, 3, 1)", () -> x.addNode('c', 0, 3, 1));
        tells("addNode('*', 1, 4, 0)", () -> x.addNode('*', 1, 4, 0));
        tells("addNode('?', 0, 5, 2)", () -> x.addNode('?', 0, 5, 2));
        tells("setBody(0, 6)", () -> x.setBody(0, 6));
        tells("isEarly(0, 0)", () -> x.isEarly(0, 0));
        tells("isEarly(0, 1)", () -> x.isEarly(0, 1));
    }

    private static void make(Bindtime x) {
        tells("state()", () -> x.state());
        tells("begin(4)", () -> x.begin(4));
        tells("state()", () -> x.state());
        tells("makeAll()", () -> x.makeAll());
        tells("state()", () -> x.state());
        tells("procedures()", () -> x.procedures());
        tells("sizeOf(0)", () -> x.sizeOf(0));
        tells("countOf(0, '*')", () -> x.countOf(0, '*'));
        tells("known(0, 0)", () -> x.known(0, 0));
        tells("known(0, 1)", () -> x.known(0, 1));
        tells("make()", () -> x.make());
    }

    private static void run(Bindtime x) {
        tells("run(false, 4, 3, 2000)", () -> x.run(false, 4, 3, 2000));
        tells("result()", () -> x.result());
        tells("steps()", () -> x.steps());
        tells("run(true, 0, 3, 2000)", () -> x.run(true, 0, 3, 2000));
        tells("result()", () -> x.result());
        tells("steps()", () -> x.steps());
        tells("run(false, 4, 3, 20)", () -> x.run(false, 4, 3, 20));
        tells("allSteps()", () -> x.allSteps());
        tells("isLike(-2)", () -> x.isLike(-2));
        tells("gain(3)", () -> x.gain(3));
        tells("meanSize()", () -> x.meanSize());
        tells("isConsistent()", () -> x.isConsistent());
    }

    private static void makeWithLimit(Bindtime x) {
        tells("setAhead(1)", () -> x.setAhead(1));
        tells("begin(4)", () -> x.begin(4));
        tells("make()", () -> x.make());
        tells("known(1, 0)", () -> x.known(1, 0));
        tells("makeAll()", () -> x.makeAll());
        tells("procedures()", () -> x.procedures());
    }

    /** The next call that README.md tells, with its answer, must be this one. */
    private static void tells(String name, Check.Call call) {
        Check.same("call of README.md", next(), "x." + name + "; " + answerOf(call));
    }

    private static String answerOf(Check.Call call) {
        try {
            Object answer = call.answer();
            return answer instanceof Character ? "'" + answer + "'" : answer.toString();
        } catch (RuntimeException e) {
            return "throws " + e.getClass().getSimpleName();
        }
    }

    private static String next() {
        while (line < lines.size()) {
            String text = lines.get(line);
            line++;
            int comment = text.indexOf(" // ");
            if (text.startsWith("x.") && comment > 0) {
                String answer = text.substring(comment + 4);
                int reason = answer.indexOf(": ");
                return text.substring(0, comment).strip() + " " + (reason < 0 ? answer : answer.substring(0, reason));
            }
        }
        return "none";
    }
}
