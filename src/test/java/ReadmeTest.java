import java.io.IOException;
import java.nio.file.DirectoryStream;
import java.nio.file.Files;
import java.nio.file.Path;

/** README.md holds: the calls of its examples can be made as they stand there, and its table names each test. */
public final class ReadmeTest {
    public static void main(String[] args) throws IOException {
        String readme = Files.readString(Path.of("README.md"));
        examples();
        examplesStandIn(readme);
        eachTestStandsIn(readme);
        Check.isTrue("it says how to run the tests", readme.contains(".ci/run"));
        Check.end();
    }

    private static void examples() {
        // README: from here
        Pegdraw bank = new Pegdraw();
        bank.swim(5, 0);                 // swim 0
        bank.swim(5, 2);                 // swim 1, down the river
        bank.stock(0, 0, 40);            // a fish of kind 0 and a length of 40
        int anna = bank.angler(7);
        int bert = bank.angler(4);
        bank.draw();                     // gives pegs, answers the golden one
        bank.stake(anna, 10);
        bank.begin(60);
        bank.cast(anna, 0);
        bank.feed(anna, 5);
        bank.pass(60);                   // the match ends, lines are out
        bank.weigh(anna, 0);
        bank.weigh(bert, 0);             // all are weighed: results are told
        int winner = bank.winner(0);
        int first = bank.table(0);       // the first of the league
        // README: to here
        String held = Held.by(bank);
        // README: from here
        try {
            bank.cast(anna, 2);
        } catch (IllegalArgumentException e) {
            // beside is -1, 0 or 1: no line was cast, and the own one is where it was
        }
        // README: to here
        Check.isTrue("a wrong call changes nothing", held.equals(Held.by(bank)));
        Check.due("the match is over", bank.matches(), 1);
        Check.isTrue("one of them won", winner == anna || winner == bert);
        Check.isTrue("one of them leads", first == anna || first == bert);
    }

    private static void examplesStandIn(String readme) throws IOException {
        StringBuilder example = null;
        int examples = 0;
        for (String line : Files.readAllLines(Path.of("src/test/java/ReadmeTest.java"))) {
            if (line.equals("        // README: from here")) {
                example = new StringBuilder("```java\n");
            } else if (line.equals("        // README: to here")) {
                Check.isTrue("README.md has an example as it stands here", readme.contains(example.append("```\n")));
                example = null;
                examples++;
            } else if (example != null) {
                example.append(line.substring(8)).append('\n');
            }
        }
        Check.due("examples in README.md", readme.split("```java").length - 1, examples);
    }

    private static void eachTestStandsIn(String readme) throws IOException {
        try (DirectoryStream<Path> tests = Files.newDirectoryStream(Path.of("src/test/java"), "*Test.java")) {
            for (Path test : tests) {
                String name = test.getFileName().toString().replace(".java", "");
                Check.isTrue("README.md names " + name, readme.contains("| " + name + " |"));
            }
        }
    }
}
