import java.io.IOException;
import java.nio.file.Files;
import java.nio.file.Path;
import java.util.List;

/** The example in README.md answers what it tells. */
public final class ReadmeTest {
    private static List<String> lines;
    private static int at;

    private ReadmeTest() {
    }

    public static void main(String[] args) throws IOException {
        lines = Files.readAllLines(Path.of("README.md"));
        at = lines.indexOf("```java") + 1;
        Check.due("an example in README.md", 1, at > 0 ? 1 : 0);
        example();
        Check.due("what is behind the example's last line is its end", 1, line().equals("```") ? 1 : 0);
        Check.end();
    }

    private static String line() {
        return at < lines.size() ? lines.get(at) : "";
    }

    /** The next line of the example is this call, and tells this answer. */
    private static void told(String call, String answer) {
        boolean isTold = line().matches("\\Q" + call + ";\\E +// \\Q" + answer + "\\E([ :].*)?");
        Check.due(call + " answers " + answer + ", README.md tells: " + line(), 1, isTold ? 1 : 0);
        at++;
    }

    private static void told(String call, int answer) {
        told(call, Integer.toString(answer));
    }

    private static void example() {
        StarlingSquare square = new StarlingSquare();
        Check.due("a new one", 1, line().equals("StarlingSquare square = new StarlingSquare();") ? 1 : 0);
        at++;
        told("square.reset(7, 5)", square.reset(7, 5));
        told("square.wall(3, 0, 3, 1, true)", square.wall(3, 0, 3, 1, true));
        told("square.wall(3, 3, 3, 4, true)", square.wall(3, 3, 3, 4, true));
        told("square.mark(0, 6, 2)", square.mark(0, 6, 2));
        told("square.mark(1, 0, 2)", square.mark(1, 0, 2));
        told("square.far(0, 0, 0)", square.far(0, 0, 0));
        told("square.walker(0, 1, 2, 0, 2)", square.walker(0, 1, 2, 0, 2));
        told("square.walker(1, 2, 0, 5, 2)", square.walker(1, 2, 0, 5, 2));
        told("square.tick(2)", square.tick(2));
        told("square.ofWalker(0, 3)", square.ofWalker(0, 3));
        told("square.cost(0, 0)", square.cost(0, 0));
        told("square.cost(0, 4)", square.cost(0, 4));
        told("square.wants(0)", square.wants(0));
        told("square.way(0, 3)", square.way(0, 3));
        told("square.jamIn(60)", square.jamIn(60));
        told("square.outIn(0, 60)", square.outIn(0, 60));
        told("square.tick(10)", square.tick(10));
        told("square.jam(0)", square.jam(0));
        told("square.turnTo(1, 0, 0)", square.turnTo(1, 0, 0));
        told("square.outIn(0, 60)", square.outIn(0, 60));
        told("square.outWith(5, 9)", square.outWith(5, 9));
        told("square.outBy(5, 2, 6)", square.outBy(5, 2, 6));
        told("square.farWith(0, 5, 2)", square.farWith(0, 5, 2));
        told("square.tick(20)", square.tick(20));
        told("square.meanSteps()", Double.toString(square.meanSteps()));
    }
}
