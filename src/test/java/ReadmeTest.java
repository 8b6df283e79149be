import java.io.IOException;
import java.nio.file.Files;
import java.nio.file.Path;
import java.util.ArrayList;
import java.util.List;

/** The example of README.md, line by line, with the answers that its comments begin with. */
public final class ReadmeTest {
    private static final Path README = Path.of("README.md");
    private static final Path THIS_TEST = Path.of("src/test/java/ReadmeTest.java");

    private ReadmeTest() {
    }

    public static void main(String[] args) throws IOException {
        List<String> lines = exampleLines();
        List<String> here = Files.readAllLines(THIS_TEST).stream().map(String::strip).toList();
        List<String> told = new ArrayList<>();
        for (String line : lines) {
            int comment = line.indexOf("//");
            String call = comment < 0 ? line : line.substring(0, comment);
            Due.same("that this test has the line " + call, "true", "" + here.contains(call.strip()));
            if (comment >= 0) {
                told.add(line.substring(comment + 2).strip().split("[:, ]")[0]);
            }
        }
        Due.same("answers told by README.md", answers().toString(), told.toString());
        eachCallIsTold();
        Due.end("ReadmeTest");
    }

    /** The lines of the first block of Java in README.md. */
    private static List<String> exampleLines() throws IOException {
        List<String> lines = new ArrayList<>();
        boolean inside = false;
        for (String line : Files.readAllLines(README)) {
            if (inside && line.equals("```")) {
                return lines;
            }
            if (inside && !line.isBlank()) {
                lines.add(line);
            }
            inside = inside || line.equals("```java");
        }
        return lines;
    }

    private static List<String> answers() {
        MergeAtelier x = new MergeAtelier();
        int item = x.addItem('t');
        int cell = x.addItem('c');
        int quote = x.quote(cell, item, 1);
        int side = x.addBranch(x.head(0));
        int five = x.set(0, item, 5);
        int seven = x.set(side, item, 7);
        int base = x.base(five, seven);
        int would = x.wouldConflict(0, side);
        int merged = x.merge(0, side);
        int held = x.sides(merged, item);
        int lower = x.sideAt(merged, item, 0);
        int upper = x.sideByLog(merged, item, 1);
        int settled = x.settle(0, item, 1);
        int eight = x.set(0, cell, 8);
        boolean isBroken = x.isBroken(quote, eight);
        int blamed = x.blame(eight, item);
        int picked = x.pick(side, eight);
        long sum = x.sum(picked);
        int before = x.tag(0, picked);
        return List.of("" + item, "" + cell, "" + quote, "" + side, "" + five, "" + seven, "" + base, "" + would,
                "" + merged, "" + held, "" + lower, "" + upper, "" + settled, "" + eight, "" + isBroken,
                "" + blamed, "" + picked, "" + sum, "" + before);
    }

    private static void eachCallIsTold() throws IOException {
        String readme = Files.readString(README);
        for (var method : MergeAtelier.class.getMethods()) {
            if (method.getDeclaringClass() == MergeAtelier.class) {
                String name = method.getName();
                Due.same("that README.md tells of " + name, "true", "" + readme.contains("`" + name + "("));
            }
        }
    }
}
