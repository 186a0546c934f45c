import java.io.IOException;
import java.nio.file.Files;
import java.nio.file.Path;

/** The example in README.md answers what it says there; it is run at the project's root. */
public final class ReadmeTest {
    private static String readme;

    /** A line of the example, which README.md must have word for word, and what it answers. */
    private static void line(String line, int got, int want) {
        Due.is("README.md has: " + line, readme.contains("\n" + line) ? 1 : 0, 1);
        Due.is(line, got, want);
    }

    public static void main(String[] args) throws IOException {
        readme = Files.readString(Path.of("README.md"));
        LineOfHeirs house = new LineOfHeirs();
        int pump = house.device(0, 7);
        line("int pump = house.device(0, 7); ", pump, 0);
        int valve = house.device(1, 0);
        line("int valve = house.device(1, 0); ", valve, 1);
        line("house.call(pump, 0, 2, 5);              // act 0 read, by way 2 READS, of 5: answers 12",
            house.call(pump, 0, 2, 5), 12);
        line("house.chain(0);                         // 100:", house.chain(0), 100);
        line("house.link(pump, valve);                // 0:", house.link(pump, valve), 0);
        line("house.pass(pump, 5);                    // a pulse: answers 2,", house.pass(pump, 5), 2);
        line("house.state(valve, 1);                  // 417:", house.state(valve, 1), 417);
        line("house.call(pump, 4, 3, 5);              // act 4 put, by way 3 WRITES: 0,",
            house.call(pump, 4, 3, 5), 0);
        line("house.status();                         // 2:", house.status(), 2);
        Due.end("ReadmeTest");
    }
}
