import java.io.IOException;
import java.nio.charset.StandardCharsets;
import java.nio.file.Files;
import java.nio.file.Path;
import java.util.ArrayList;
import java.util.Collections;
import java.util.List;
import java.util.stream.Stream;

/**
 * Runs of calls under src/test/data, whose answers another program reckoned in other ways (promises
 * 4 to 24). A line is "new", "T" and a text to feed, or a call and, behind " = ", what is due.
 */
public final class DataTest {
  public static void main(String[] args) throws IOException {
    List<Path> files = new ArrayList<>();
    try (Stream<Path> found = Files.list(Path.of("src/test/data"))) {
      found.forEach(files::add);
    }
    Collections.sort(files);
    for (Path file : files) {
      House h = new House();
      String text = "";
      for (String line : Files.readAllLines(file, StandardCharsets.ISO_8859_1)) {
        if (line.equals("new")) {
          h = new House();
        } else if (line.startsWith("T ")) {
          text = line.substring(2);
          h.feed(text);
        } else {
          check(h, file.getFileName() + ", after " + text, line);
        }
      }
    }
    House.end();
  }

  private static void check(House h, String where, String line) {
    int mark = line.indexOf(" = ");
    String want = line.substring(mark + 3);
    String call = line.substring(0, mark);
    if (call.equals("out")) {
      h.wrote(where, want, h.x.out(-1));
      return;
    }
    String[] words = call.split(" ");
    int[] v = new int[4];
    for (int i = 1; i < words.length; i++) {
      v[i - 1] = Integer.parseInt(words[i]);
    }
    House.due(where + ", " + call, Integer.parseInt(want), answer(h.x, words[0], v));
  }

  private static int answer(RealHouse x, String name, int[] v) {
    return switch (name) {
      case "tell" -> x.tell(v[0], v[1]);
      case "roots" -> x.roots(v[0]);
      case "times" -> x.times(v[0]);
      case "root" -> x.root(v[0], v[1]);
      case "signAt" -> x.signAt(v[0], v[1]);
      case "below" -> x.below(v[0], v[1]);
      case "points" -> x.points(v[0]);
      case "point" -> x.point(v[0], v[1], v[2]);
      case "signAtPoint" -> x.signAtPoint(v[0], v[1]);
      case "decide" -> x.decide(v[0]);
      case "solve" -> x.solve(v[0]);
      case "piece" -> x.piece(v[0], v[1]);
      case "edge" -> x.edge(v[0], v[1], v[2]);
      case "factors" -> x.factors(v[0]);
      case "factor" -> x.factor(v[0]);
      case "power" -> x.power(v[0]);
      case "hold" -> x.hold(v[0], v[1]);
      case "reckon" -> x.reckon(v[0], v[1], v[2], v[3]);
      case "least" -> x.least(v[0]);
      case "number" -> x.number(v[0], v[1]);
      case "compare" -> x.compare(v[0], v[1]);
      default -> throw new IllegalArgumentException(name);
    };
  }
}
