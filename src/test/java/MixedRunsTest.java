import java.io.IOException;
import java.nio.charset.StandardCharsets;
import java.nio.file.Files;
import java.nio.file.Path;
import java.util.ArrayList;
import java.util.Collections;
import java.util.List;
import java.util.stream.Stream;

/**
 * The runs under src/test/runs, each of 512 calls of all kinds on one house, whose answers another
 * program reckoned in other ways. A line is a call, or "T" and a text that is fed whole, and,
 * behind the last " = ", what the call, or the text's last feed, has to answer.
 */
public final class MixedRunsTest {
  public static void main(String[] args) throws IOException {
    List<Path> files = new ArrayList<>();
    try (Stream<Path> found = Files.list(Path.of("src/test/runs"))) {
      found.forEach(files::add);
    }
    Collections.sort(files);
    List<List<String>> runs = new ArrayList<>();
    for (Path file : files) {
      runs.add(Files.readAllLines(file, StandardCharsets.ISO_8859_1));
    }
    for (List<String> run : runs) {
      inTurn(List.of(run));
    }
    // "All memory is the house's own": what is done in other houses meanwhile changes nothing
    inTurn(runs);
    House.end();
  }

  /** Makes all runs, each on its own house, a line of each in turn, up to the 512th call. */
  private static void inTurn(List<List<String>> runs) {
    List<House> houses = new ArrayList<>();
    int longest = 0;
    for (List<String> run : runs) {
      houses.add(new House());
      longest = Math.max(longest, run.size());
    }
    for (int i = 0; i < longest; i++) {
      for (int j = 0; j < runs.size(); j++) {
        if (i < runs.get(j).size()) {
          check(houses.get(j), runs.get(j).get(i), (j + 1) + " of " + runs.size());
        }
      }
    }
    for (House h : houses) {
      House.due("calls left", 0, h.x.left());
    }
  }

  private static void check(House h, String line, String run) {
    int mark = line.lastIndexOf(" = ");
    String call = line.substring(0, mark);
    int want = Integer.parseInt(line.substring(mark + 3));
    int got = call.startsWith("T ") ? h.feedAll(call.substring(2)) : h.call(call);
    House.due("run " + run + ", " + call, want, got);
  }
}
