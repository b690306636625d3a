import java.io.IOException;
import java.nio.file.Files;
import java.nio.file.Path;
import java.util.ArrayList;
import java.util.List;

/** README.md: the lines of its examples are those that are run here, and come to what it says. */
public final class ReadmeTest {
    private static final List<String> RUN = new ArrayList<>();

    public static void main(String[] args) throws IOException {
        putTogether();
        fed();
        String file = System.getProperty("readme", "README.md");
        Check.same("the lines of the examples in " + file, String.join("\n", RUN),
            String.join("\n", examples(Files.readAllLines(Path.of(file)))));
        Check.finish();
    }

    private static List<String> examples(List<String> lines) {
        List<String> found = new ArrayList<>();
        boolean inside = false;
        for (String line : lines) {
            boolean fence = line.startsWith("```");
            if (inside && !fence) {
                found.add(line);
            }
            inside = fence ? !inside : inside;
        }
        return found;
    }

    private static void putTogether() {
        RUN.add("RuleReader x = new RuleReader();");
        RuleReader x = new RuleReader();
        RUN.add("x.add(0, 2, 5);              // the tape: 02 01 05");
        x.add(0, 2, 5);
        Check.tape("the first add", x, "02 01 05");
        RUN.add("x.add(0, 2, 300);            // 02 01 05 02 02 01 2c");
        x.add(0, 2, 300);
        Check.tape("the second add", x, "02 01 05 02 02 01 2c");
        RUN.add("x.wrap(0, 16, true);         // 30 07 02 01 05 02 02 01 2c");
        x.wrap(0, 16, true);
        Check.tape("wrap", x, "30 07 02 01 05 02 02 01 2c");
        RUN.add("int many = x.read(true);     // 3 nodes");
        Check.due("read(true)", 3, x.read(true));
        RUN.add("int parent = x.node(2, 6);   // 0");
        Check.due("node(2, 6)", 0, x.node(2, 6));
        RUN.add("long number = x.number(2);   // 300");
        Check.due("number(2)", 300, x.number(2));
        RUN.add("int order = x.compare(1, 2); // 1: 05 comes behind 01 2c");
        Check.due("compare(1, 2)", 1, x.compare(1, 2));
        RUN.add("long word = x.word(0);       // 0x3007020105020201L");
        Check.due("word(0)", 0x3007020105020201L, x.word(0));
    }

    private static void fed() {
        RUN.add("RuleReader y = new RuleReader();");
        RuleReader y = new RuleReader();
        RUN.add("y.feed(0x30800201, 0x05000000, 0, 0, 0);");
        y.feed(0x30800201, 0x05000000, 0, 0, 0);
        RUN.add("y.end(7);                    // 30 80 02 01 05 00 00");
        y.end(7);
        Check.tape("end(7)", y, "30 80 02 01 05 00 00");
        RUN.add("int found = y.read(false);   // 2 nodes");
        Check.due("read(false)", 2, y.read(false));
        RUN.add("int bytes = y.node(0, 5);    // 3: without the two zeros");
        Check.due("node(0, 5)", 3, y.node(0, 5));
        RUN.add("y.read(true);                // throws UnsupportedOperationException; the 2 nodes stay");
        Check.unsupported("read(true)", () -> y.read(true));
        Check.due("the nodes behind it", 2, y.count(1));
    }
}
