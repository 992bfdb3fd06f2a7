import java.io.IOException;
import java.nio.file.Files;
import java.nio.file.Path;
import java.util.List;

/** The example of README.md: it stands here word for word, and answers what is noted there. */
public final class ExampleTest {
    public static void main(String[] args) throws IOException {
        Check check = new Check();
        checkAnswers(check);
        List<String> here = lines("src/test/java/ExampleTest.java");
        boolean example = false;
        int found = 0;
        for (String line : lines("README.md")) {
            if (line.startsWith("```")) {
                example = line.equals("```java");
            } else if (example) {
                check.holds("'" + line + "' is tested here", here.contains(line));
                found++;
            }
        }
        check.holds("README.md has an example", found > 0);
        check.end();
    }

    private static void checkAnswers(Check check) {
        Stairflow bench = new Stairflow();           // the outside is place 0
        int landing = bench.addPlace(10);            // room for 10
        int office = bench.addPlace(30);
        int exit = bench.addDoor(landing, 0, 2, 1);  // flow 2, share 1
        int stair = bench.addDoor(office, landing, 3, 1);
        bench.come(office, 12);
        bench.setRelease(office, 5);                 // they wait until the time 5
        int least = bench.bound();                   // 6: no clearing takes fewer steps
        int out = bench.step(8);                     // 4 have reached the outside
        int next = bench.wouldMove(office);          // 3 would go to the landing in the next step
        bench.setDoor(stair, false);                 // from now on nobody can
        int trapped = bench.trapped();               // 3 have no way out
        int steps = bench.clear();                   // 4: the landing's 5, and a step without a move
        int last = bench.latest();                   // 11
        int through = bench.passed(exit);            // 9
        check.equal("landing", landing, 1);
        check.equal("office", office, 2);
        check.equal("exit", exit, 0);
        check.equal("stair", stair, 1);
        check.equal("least", least, 6);
        check.equal("out", out, 4);
        check.equal("next", next, 3);
        check.equal("trapped", trapped, 3);
        check.equal("steps", steps, 4);
        check.equal("last", last, 11);
        check.equal("through", through, 9);
    }

    /** Without the indents. */
    private static List<String> lines(String file) throws IOException {
        return Files.readAllLines(Path.of(file)).stream().map(String::trim).toList();
    }
}
