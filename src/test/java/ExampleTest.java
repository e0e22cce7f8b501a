import java.io.IOException;
import java.nio.file.Files;
import java.nio.file.Path;
import java.util.ArrayList;
import java.util.List;

/** The example of README.md answers what it says there, line by line. */
public final class ExampleTest {
    private static final Checks CHECK = new Checks();
    private static final List<String> LINES = new ArrayList<>();

    public static void main(String[] args) throws IOException {
        readExample();
        TrackNights road = new TrackNights();
        int tamper = road.machine(0, 40);
        said("int tamper = road.machine(0, 40);", tamper);
        int night = road.book(0, 2, 5, 5, 4);
        said("int night = road.book(0, 2, 5, 5, 4);", night);
        said("road.work(night, 3, tamper);", road.work(night, 3, tamper));
        said("road.pass(24, 30, 5);", road.pass(24, 30, 5));
        said("road.ofSection(3, 2);", road.ofSection(3, 2));
        said("road.mark(night, 0);", road.mark(night, 0));
        said("road.mark(night, 1);", road.mark(night, 1));
        said("road.take(night);", road.take(night));
        said("road.walk(3, 50);", road.walk(3, 50));
        said("road.giveBack(night);", road.giveBack(night));
        said("road.ofSection(3, 2);", road.ofSection(3, 2));
        said("road.ofSection(3, 7);", road.ofSection(3, 7));
        said("road.many(9);", road.many(9));
        said("road.measure(0, 0, 9, 1);", road.measure(0, 0, 9, 1));
        said("road.known(2, 0);", road.known(2, 0));
        said("road.firstRisk(3, 24);", road.firstRisk(3, 24));
        said("road.freeDay(0, 0, 9);", road.freeDay(0, 0, 9));
        CHECK.is("lines of the example that were not tried: " + LINES, LINES.size(), 0);
        CHECK.finish();
    }

    /** The lines of the first piece of Java in README.md, but for the one that makes the road. */
    private static void readExample() throws IOException {
        boolean inside = false;
        for (String line : Files.readAllLines(Path.of("README.md"))) {
            if (line.equals("```") && inside) {
                return;
            }
            if (inside && !line.contains("new TrackNights()")) {
                LINES.add(line);
            }
            inside = inside || line.equals("```java");
        }
    }

    /** The next line is this call, and its comment begins with this answer. */
    private static void said(String call, Object answer) {
        String line = LINES.isEmpty() ? "nothing" : LINES.remove(0);
        boolean good = line.startsWith(call) && line.matches(".*// " + answer + "([: ].*)?");
        CHECK.is("README.md says \"" + line + "\", " + call + " answered " + answer + ":", good, true);
    }
}
