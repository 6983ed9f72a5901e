import java.io.IOException;
import java.nio.file.Files;
import java.nio.file.Path;
import java.util.ArrayList;
import java.util.List;
import java.util.stream.Collectors;
import java.util.stream.Stream;

/** README.md: its example answers what its comments tell, and its table names every test of the project. */
public final class ReadmeTest {
    // The statements of the example, as they are made in exampleAnswers.
    private static final String[] EXAMPLE = {
        "Refereehall land = new Refereehall();", "int author = land.addPerson(0, 5);",
        "int editor = land.addPerson(1, 5);", "land.addEditor(editor, 3);", "int paper = land.begin(author, 3, 5);",
        "land.sign(paper, author);", "land.assign(paper);", "land.state(paper);"};

    private ReadmeTest() {
    }

    public static void main(String[] args) throws IOException {
        List<String> lines = Files.readAllLines(Path.of("README.md"));
        exampleIsThatOfReadme(lines);
        exampleAnswers();
        tableNamesEveryTest(lines);
        Check.end();
    }

    private static void exampleIsThatOfReadme(List<String> lines) {
        List<String> block = lines.subList(lines.indexOf("```java") + 1, lines.indexOf("```"));
        List<String> statements = new ArrayList<>();
        for (String line : block) {
            statements.add(line.replaceAll("//.*", "").trim());
        }
        Check.due("the example of README.md", statements, List.of(EXAMPLE));
    }

    private static void exampleAnswers() {
        Refereehall land = new Refereehall();
        int author = land.addPerson(0, 5);
        int editor = land.addPerson(1, 5);
        land.addEditor(editor, 3);
        int paper = land.begin(author, 3, 5);
        Check.due("sign in the example", land.sign(paper, author), true);
        Check.due("assign in the example", land.assign(paper), 1);
        Check.due("state in the example", land.state(paper), 'e');
    }

    private static void tableNamesEveryTest(List<String> lines) throws IOException {
        List<String> named = lines.stream().filter(line -> line.matches("\\| \\w+Test \\|.*"))
                .map(line -> line.split(" ")[1]).sorted().collect(Collectors.toList());
        try (Stream<Path> files = Files.list(Path.of("src/test/java"))) {
            List<String> there = files.map(file -> file.getFileName().toString())
                    .filter(name -> name.endsWith("Test.java")).map(name -> name.replace(".java", "")).sorted()
                    .collect(Collectors.toList());
            Check.due("the tests that README.md names", named, there);
        }
    }
}
