import java.io.IOException;
import java.nio.file.Files;
import java.nio.file.Path;
import java.util.ArrayList;
import java.util.List;

/** README.md names each call of the document's face, and its example has the answers that are given. */
public final class ReadmeTest {
    private final Checks checks = new Checks();
    private final String readme;
    private final List<String> example;
    private int line = 1;

    private ReadmeTest() throws IOException {
        readme = Files.readString(Path.of("README.md"));
        example = exampleOf(readme);
    }

    public static void main(String[] args) throws IOException {
        ReadmeTest test = new ReadmeTest();
        test.namesEachCallOfTheFace();
        test.answersOfTheExample();
        test.checks.is("README.md tells of .ci/run", test.readme.contains("\n.ci/run\n"), true);
        test.checks.end();
    }

    private static List<String> exampleOf(String text) {
        List<String> lines = new ArrayList<>();
        int start = text.indexOf("```java\n");
        int end = text.indexOf("\n```", start + 1);
        if (start >= 0 && end > start) {
            lines.addAll(List.of(text.substring(start + "```java\n".length(), end).split("\n")));
        }
        return lines;
    }

    private void namesEachCallOfTheFace() throws IOException {
        List<String> face = Document.face();
        checks.is("declarations in the document's face", face.size(), 22);
        for (String declaration : face) {
            String call = Document.withoutThrows(declaration);
            String named = call.equals("EchoCave()") ? "`new EchoCave()`" : "`" + call + "`";
            checks.is("README.md names " + named, readme.contains(named), true);
        }
    }

    private void answersOfTheExample() {
        EchoCave cave = new EchoCave();
        checks.is("the example's first line", example.isEmpty() ? "" : example.get(0),
                "EchoCave cave = new EchoCave();");
        next("cave.addChamber(50, 20, 0)", () -> cave.addChamber(50, 20, 0));
        next("cave.addChamber(0, 25, 3)", () -> cave.addChamber(0, 25, 3));
        next("cave.addPassage(0, 1, 3, 0)", () -> cave.addPassage(0, 1, 3, 0));
        next("cave.addPassage(0, 2, 4, 2)", () -> cave.addPassage(0, 2, 4, 2));
        next("cave.setClapper(2, 3, 6)", () -> cave.setClapper(2, 3, 6));
        next("cave.say(123, 4)", () -> cave.say(123, 4));
        next("cave.inOrder()", () -> cave.inOrder());
        next("cave.heard(0, 0)", () -> cave.heard(0, 0));
        next("cave.heard(0, 3)", () -> cave.heard(0, 3));
        next("cave.first(2)", () -> cave.first(2));
        next("cave.quickest(123)", () -> cave.quickest(123));
        next("cave.setWater(21)", () -> cave.setWater(21));
        next("cave.would(123, 4, 1)", () -> cave.would(123, 4, 1));
        next("cave.highest(1)", () -> cave.highest(1));
        next("cave.addPassage(0, 3, 1, 0)", () -> cave.addPassage(0, 3, 1, 0));
        checks.is("lines of the example", example.size(), line);
    }

    /** The next line of the example has to be this call, and to tell its answer, up to a colon, behind it. */
    private void next(String call, Checks.Call made) {
        String got = line < example.size() ? example.get(line) : "";
        String told = Document.onOneLine(got).replace("// throws ", "// ").replaceAll(": .*", "");
        checks.is("the example's line " + line, told, call + "; // " + Checks.outcome(made));
        line++;
    }
}
