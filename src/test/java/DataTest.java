import java.io.IOException;
import java.nio.charset.StandardCharsets;
import java.nio.file.Files;
import java.nio.file.Path;
import java.util.ArrayList;
import java.util.Collections;
import java.util.List;
import java.util.stream.Stream;

/**
 * Runs of calls under src/test/data, whose answers another program reckoned in other ways (promises
 * 4 to 24). A line is "new", "T" and a text to feed, or a call and, behind " = ", what is due.
 */
public final class DataTest {
  public static void main(String[] args) throws IOException {
    List<Path> files = new ArrayList<>();
    try (Stream<Path> found = Files.list(Path.of("src/test/data"))) {
      found.forEach(files::add);
    }
    Collections.sort(files);
    for (Path file : files) {
      new DataTest(file.getFileName().toString())
          .run(Files.readAllLines(file, StandardCharsets.ISO_8859_1));
    }
    House.end();
  }

  private final String name;
  private House h = new House();
  private String text = "";

  private DataTest(String name) {
    this.name = name;
  }

  private void run(List<String> lines) {
    int first = 0;
    for (int i = 0; i < lines.size(); i++) {
      if (lines.get(i).equals("new")) {
        first = i;
        h = new House();
      }
      check(lines.get(i), lines.subList(first, i));
    }
  }

  /** A house answers 512 calls: when few are left, another one that has done all takes over. */
  private void renew(int few, List<String> done) {
    if (h.x.left() < few) {
      h = new House();
      for (String line : done) {
        make(line);
      }
    }
  }

  /** Makes the call of a line: what it answered. */
  private int make(String line) {
    if (line.startsWith("T ")) {
      text = line.substring(2);
      h.feed(text);
    }
    int mark = line.indexOf(" = ");
    return mark < 0 || line.startsWith("out") ? 0 : h.call(line.substring(0, mark));
  }

  private void check(String line, List<String> done) {
    renew(25, done);
    int answer = make(line);
    int mark = line.indexOf(" = ");
    if (mark < 0) {
      return;
    }
    String where = name + ", after " + text + ", " + line.substring(0, mark);
    String want = line.substring(mark + 3);
    if (!line.startsWith("out")) {
      House.due(where, Integer.parseInt(want), answer);
      return;
    }
    House.due(where, want.length(), h.x.out(-1));
    StringBuilder got = new StringBuilder();
    for (int i = 0; i < want.length(); i++) {
      renew(1, done);
      got.append((char) h.x.out(i));
    }
    House.due(where, want, got.toString());
  }
}
