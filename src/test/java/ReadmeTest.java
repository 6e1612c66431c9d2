import java.io.ByteArrayOutputStream;
import java.io.IOException;
import java.io.PrintStream;
import java.lang.reflect.InvocationTargetException;
import java.net.URL;
import java.net.URLClassLoader;
import java.nio.charset.StandardCharsets;
import java.nio.file.Files;
import java.nio.file.Path;
import java.util.Comparator;
import java.util.List;
import java.util.stream.Stream;
import javax.tools.ToolProvider;

/** The program in README.md compiles, and prints what stands below it. */
public final class ReadmeTest {
  public static void main(String[] args)
      throws IOException, ClassNotFoundException, NoSuchMethodException, IllegalAccessException,
          InvocationTargetException {
    List<String> lines = Files.readAllLines(Path.of("README.md"));
    int program = lines.indexOf("```java");
    int programEnd = endOf(lines, program);
    int printed = programEnd + 1 + lines.subList(programEnd + 1, lines.size()).indexOf("```");
    Path work = Files.createTempDirectory("readme");
    try {
      Path source = work.resolve("Example.java");
      Files.write(source, lines.subList(program + 1, programEnd));
      House.due("what javac says", 0, ToolProvider.getSystemJavaCompiler().run(null, null, null,
          "-Xlint:all", "-d", work.toString(), "src/main/java/RealHouse.java", source.toString()));
      String want = String.join("\n", lines.subList(printed + 1, endOf(lines, printed))) + "\n";
      House.due("what it prints", want, run(work));
    } finally {
      remove(work);
    }
    House.end();
  }

  /** Where the block that begins in a line ends. */
  private static int endOf(List<String> lines, int begin) {
    return begin + 1 + lines.subList(begin + 1, lines.size()).indexOf("```");
  }

  /** What the program in a directory prints, run beside a RealHouse of its own. */
  private static String run(Path work)
      throws IOException, ClassNotFoundException, NoSuchMethodException, IllegalAccessException,
          InvocationTargetException {
    PrintStream before = System.out;
    ByteArrayOutputStream bytes = new ByteArrayOutputStream();
    URL[] path = {work.toUri().toURL()};
    try (URLClassLoader loader =
        new URLClassLoader(path, ClassLoader.getPlatformClassLoader())) {
      System.setOut(new PrintStream(bytes, true, StandardCharsets.UTF_8));
      Object none = new String[0];
      loader.loadClass("Example").getMethod("main", String[].class).invoke(null, none);
    } finally {
      System.setOut(before);
    }
    return bytes.toString(StandardCharsets.UTF_8).replace(System.lineSeparator(), "\n");
  }

  private static void remove(Path work) throws IOException {
    try (Stream<Path> all = Files.walk(work)) {
      for (Path path : all.sorted(Comparator.reverseOrder()).toList()) {
        Files.delete(path);
      }
    }
  }
}
