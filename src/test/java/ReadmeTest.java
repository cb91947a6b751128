import java.io.IOException;
import java.nio.file.Files;
import java.nio.file.Path;
import java.util.ArrayList;
import java.util.List;

/** README.md: its example stands here word for word, is run, and answers what its comments tell; it names every test. */
public final class ReadmeTest {
    private static final Checks CHECKS = new Checks();

    private static void example() {
        // The example begins.
        TankArena arena = new TankArena();
        int first = arena.enter(10, 10, 0);      // 0: the number of the tank at 10, 10 with the heading 0
        int second = arena.enter(30, 10, 4);     // 1
        int far = arena.enter(90, 10, 4);        // TankArena.REFUSED: not within 2 .. 62
        arena.instr(first, 5, 1, 0);             // FIRE with the power 1; answers 1, the length of the program
        int length = arena.instr(first, 0, 0, 0);    // WAIT; answers 2
        int alive = 0;
        for (int i = 0; i < 13; i++) {
            alive = arena.turn();                // 2: how many are alive behind the turn
        }
        int bulletX = arena.bullet(0, 0);        // 136 eighths: the bullet was fired at 10 and is at 17 now
        alive = arena.turn();
        alive = arena.turn();
        int gone = arena.bullet(0, 0);           // TankArena.REFUSED: it hit the second tank
        long energy = arena.measure(second, 3);  // 768 eighths: 96 of its 100 are left
        long score = arena.measure(first, 6);    // 32 eighths: it took 4 from another one
        int wasHit = arena.state(second, 10);    // 1: in the last turn
        int shots = arena.count(4);              // 1
        int turns = arena.restart();             // 15, and all is as it was before the first turn
        // The example ends.
        CHECKS.due("first", first, 0);
        CHECKS.due("second", second, 1);
        CHECKS.due("far", far, TankArena.REFUSED);
        CHECKS.due("length", length, 2);
        CHECKS.due("alive", alive, 2);
        CHECKS.due("bulletX", bulletX, 136);
        CHECKS.due("gone", gone, TankArena.REFUSED);
        CHECKS.due("energy", energy, 768);
        CHECKS.due("score", score, 32);
        CHECKS.due("wasHit", wasHit, 1);
        CHECKS.due("shots", shots, 1);
        CHECKS.due("turns", turns, 15);
        CHECKS.due("turns behind the restart", arena.count(0), 0);
    }

    /** The lines between the first one that is the first mark and the next that is the second. */
    private static String between(List<String> lines, String from, String to) {
        List<String> found = new ArrayList<>();
        boolean inside = false;
        for (String line : lines) {
            if (inside && line.strip().equals(to)) {
                return String.join("\n", found).stripIndent();
            }
            if (inside) {
                found.add(line);
            }
            inside = inside || line.strip().equals(from);
        }
        return "not there: " + from;
    }

    private static void sameWords(List<String> readme) throws IOException {
        List<String> source = Files.readAllLines(Path.of("src/test/java/ReadmeTest.java"));
        CHECKS.due("the example of README.md", between(readme, "```java", "```"),
            between(source, "// The example begins.", "// The example ends."));
    }

    private static void everyTestIsNamed(List<String> readme) throws IOException {
        String words = String.join(" ", readme);
        try (var files = Files.list(Path.of("src/test/java"))) {
            for (Path file : (Iterable<Path>) files::iterator) {
                String name = file.getFileName().toString().replace(".java", "");
                CHECKS.due("README.md names " + name, words.contains(name) ? 1 : 0, 1);
            }
        }
    }

    public static void main(String[] args) throws IOException {
        List<String> readme = Files.readAllLines(Path.of("README.md"));
        example();
        sameWords(readme);
        everyTestIsNamed(readme);
        CHECKS.end();
    }
}
