import java.io.IOException;
import java.nio.file.Files;
import java.nio.file.Path;
import java.util.ArrayList;
import java.util.List;

/** The example of README.md answers what stands there behind its calls. */
public final class ReadmeTest {
    private static final List<String> shown = new ArrayList<>();
    private static int next = 0;

    public static void main(String[] args) throws IOException {
        readExample();
        Delaylens sky = new Delaylens();
        line("sky.mass(Delaylens.HALO, 0, 0, 4);", sky.mass(Delaylens.HALO, 0, 0, 4));
        line("sky.source(1, 0, 30);", sky.source(1, 0, 30));
        line("sky.images(0);", sky.images(0));
        line("sky.imageOf(0, 1, 0);", sky.imageOf(0, 1, 0));
        line("sky.imageOf(0, 1, 4);", sky.imageOf(0, 1, 4));
        line("sky.light(0, 1);", sky.light(0, 1));
        for (int day = 0; day < 10; day++) {
            sky.flare(0, day % 3 == 1 ? 30 : -10);
            sky.frame();
            sky.pass(1);
        }
        line("sky.frames();", sky.frames());
        line("sky.seen(4, 0, 1);", sky.seen(4, 0, 1));
        line("sky.measured(0, 0, 1);", sky.measured(0, 0, 1));
        line("sky.book(0, 0, 0, 1);", sky.book(0, 0, 0, 1));
        line("sky.vote(0, true);", sky.vote(0, true));
        line("sky.vote(1, true);", sky.vote(1, true));
        line("sky.vote(2, true);", sky.vote(2, true));
        line("sky.booked(0);", sky.booked(0));
        line("sky.dispute();", sky.dispute());
        line("sky.two(0, 3, 3);", sky.two(0, 3, 3));
        line("sky.frames();", sky.frames());
        line("sky.isFresh(0);", sky.isFresh(0));
        Check.report("lines with answers", "" + next, "" + shown.size());
        Check.end();
    }

    /** Keeps the lines that tell an answer, as the call and the answer. */
    private static void readExample() throws IOException {
        boolean isJava = false;
        for (String line : Files.readAllLines(Path.of("README.md"))) {
            isJava = line.startsWith("```") ? line.equals("```java") : isJava;
            String[] parts = line.split("// ");
            if (isJava && parts.length == 2) {
                shown.add(parts[0].trim() + " " + parts[1].split("[,: ]")[0]);
            }
        }
    }

    private static void line(String call, Object answer) {
        Check.report("README.md", next < shown.size() ? shown.get(next) : "no line", call + " " + answer);
        next++;
    }
}
