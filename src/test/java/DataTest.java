import java.io.IOException;
import java.nio.charset.StandardCharsets;
import java.nio.file.Files;
import java.nio.file.Path;
import java.util.ArrayList;
import java.util.Collections;
import java.util.List;
import java.util.stream.Stream;

/**
 * Runs of calls under src/test/data, whose answers another program reckoned in other ways (promises
 * 4 to 24). A line is "new", "T" and a text to feed, or a call and, behind " = ", what is due.
 */
public final class DataTest {
  public static void main(String[] args) throws IOException {
    List<Path> files = new ArrayList<>();
    try (Stream<Path> found = Files.list(Path.of("src/test/data"))) {
      found.forEach(files::add);
    }
    Collections.sort(files);
    for (Path file : files) {
      House h = new House();
      String text = "";
      for (String line : Files.readAllLines(file, StandardCharsets.ISO_8859_1)) {
        if (line.equals("new")) {
          h = new House();
        } else if (line.startsWith("T ")) {
          text = line.substring(2);
          h.feed(text);
        } else {
          check(h, file.getFileName() + ", after " + text, line);
        }
      }
    }
    House.end();
  }

  private static void check(House h, String where, String line) {
    int mark = line.indexOf(" = ");
    String want = line.substring(mark + 3);
    String call = line.substring(0, mark);
    if (call.equals("out")) {
      h.wrote(where, want, h.x.out(-1));
      return;
    }
    House.due(where + ", " + call, Integer.parseInt(want), h.call(call));
  }
}
