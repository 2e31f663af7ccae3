import java.io.IOException;
import java.lang.reflect.Field;
import java.lang.reflect.Method;
import java.lang.reflect.Modifier;
import java.nio.file.Files;
import java.nio.file.Path;
import java.util.ArrayList;
import java.util.List;

/** README.md: its example stands here line by line and answers as it tells; it names each call and each test. */
public final class ReadmeTest {
    private static final Path README = Path.of("README.md");
    private static final Path TESTS = Path.of("src/test/java");

    public static void main(String[] args) throws IOException {
        Check check = new Check("ReadmeTest");
        answersOfTheExample(check);
        String readme = Files.readString(README);
        List<String> example = linesBetween(Files.readAllLines(TESTS.resolve("ReadmeTest.java")),
            "// the example begins", "// the example ends");
        check.holds("the example has lines", example.size() > 10);
        check.sameText("the example of README.md", String.join("\n", linesBetween(
            Files.readAllLines(README), "```java", "```")), String.join("\n", example));
        for (Method method : BentPins.class.getDeclaredMethods()) {
            if (Modifier.isPublic(method.getModifiers())) {
                check.holds("README.md names " + method.getName(), readme.contains("`" + method.getName() + "("));
            }
        }
        for (Field field : BentPins.class.getDeclaredFields()) {
            if (Modifier.isPublic(field.getModifiers())) {
                check.holds("README.md names " + field.getName(), readme.contains("`" + field.getName() + "`"));
            }
        }
        for (Class<?> part : BentPins.class.getDeclaredClasses()) {
            check.holds("README.md names " + part.getSimpleName(), readme.contains("`" + part.getSimpleName() + "`"));
        }
        try (var files = Files.list(TESTS)) {
            for (Path file : (Iterable<Path>) files.sorted()::iterator) {
                String name = file.getFileName().toString().replace(".java", "");
                check.holds("README.md names " + name, readme.contains("`" + name + "`"));
            }
        }
        check.holds("README.md says how to run the tests", readme.contains("\nbash .ci/run\n"));
        check.end();
    }

    private static void answersOfTheExample(Check check) {
        // the example begins
        BentPins board = new BentPins();
        int answer = board.shoot(3, true);      // 14: done (10), and 4 points
        int bend = board.pin(3, 0);             // 2: the bend -1, and 3
        int out = board.pull(34);               // 1: one pin is pulled out
        int refused = board.bend(34, true);     // 2: refused, for this pin is pulled out
        int error = board.bend(35, true);       // INVALID_ARGUMENT: there is no such pin

        int reached = board.reach(0);           // 127: each pocket can be reached, a bit for each
        int best = board.best(false);           // 0: the best place for a soft shot
        int lost = board.ifShot(0, true, 5, 1); // 3: of five hard shots three would be lost

        for (char sign : "1!,e,2".toCharArray()) {
            board.append(sign);                 // writes two shots to the pad ...
        }
        int fault = board.fault(1);             // NOT_FOUND: it is a text of shots
        int points = board.shots();             // 8: ... and shoots them
        int reason = board.why(0);              // NOT_FOUND: all its parts were done

        int states = board.undo();              // 3: the two shots never were
        // the example ends
        check.same("shoot", answer, 14);
        check.same("pin", bend, 2);
        check.same("pull", out, 1);
        check.same("bend", refused, 2);
        check.same("bend of no pin", error, BentPins.INVALID_ARGUMENT);
        check.same("reach", reached, 127);
        check.same("best", best, 0);
        check.same("ifShot", lost, 3);
        check.same("fault", fault, BentPins.NOT_FOUND);
        check.same("shots", points, 8);
        check.same("why", reason, BentPins.NOT_FOUND);
        check.same("undo", states, 3);
        check.same("shots so far", board.count(10), 1);
    }

    /** The lines between the first one that is the first mark and the next one that is the last mark, unindented. */
    private static List<String> linesBetween(List<String> lines, String firstMark, String lastMark) {
        List<String> found = new ArrayList<>();
        boolean inside = false;
        int indent = 0;
        for (String line : lines) {
            if (inside && line.strip().equals(lastMark)) {
                return found;
            }
            if (inside) {
                found.add(line.length() > indent ? line.substring(indent) : line.strip());
            } else if (line.strip().equals(firstMark)) {
                inside = true;
                indent = line.indexOf(firstMark);
            }
        }
        return List.of();
    }
}
