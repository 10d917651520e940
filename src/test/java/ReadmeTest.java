import java.io.IOException;
import java.net.URL;
import java.net.URLClassLoader;
import java.nio.file.Files;
import java.nio.file.Path;
import java.util.ArrayList;
import java.util.Comparator;
import java.util.List;
import java.util.regex.Matcher;
import java.util.regex.Pattern;
import java.util.spi.ToolProvider;
import java.util.stream.Stream;

/**
 * What README.md shows as an answer is what the class answers. The page's Java lines are compiled as they stand there,
 * all in one method, but that a call with an answer behind it is compared with that answer.
 */
public final class ReadmeTest {
  private static final String PAGE = "README.md";
  private static final Pattern SHOWN = Pattern.compile("^(book\\.\\w+\\(.*\\)); +// (-?\\d+)(:.*)?$");
  private static final Pattern REFUSAL = Pattern.compile("(?m)^\\| `(\\w+)` \\| (-?\\d+) \\|");

  private static int checks = 0;
  private static int wrong = 0;

  public static void main(String[] args) throws Exception {
    String page = Files.readString(Path.of(PAGE));
    runExamples(page);
    refusals(page);
    findings(page);
    namedTests(page);
    System.out.println(checks + " checks of " + PAGE + ", " + wrong + " wrong");
    if (wrong != 0) {
      System.exit(1);
    }
  }

  /** The compiled example calls this, too. */
  public static void due(String what, long got, long want) {
    checks++;
    if (got != want) {
      wrong++;
      System.out.println(PAGE + ": " + what + " answered " + got + ", shown is " + want);
    }
  }

  private static void hold(boolean holds, String what) {
    due(what, holds ? 1 : 0, 1);
  }

  // ---- the examples

  private static List<String> exampleLines(String page) {
    List<String> lines = new ArrayList<>();
    boolean within = false;
    for (String line : page.split("\n")) {
      if (line.startsWith("```")) {
        within = line.equals("```java");
      } else if (within) {
        lines.add(line);
      }
    }
    return lines;
  }

  private static String comparing(String line) {
    Matcher m = SHOWN.matcher(line);
    if (!m.matches()) {
      hold(!line.startsWith("book."), "a call shows its answer: " + line);
      return line;
    }
    return "ReadmeTest.due(\"" + m.group(1) + "\", " + m.group(1) + ", " + m.group(2) + "L);";
  }

  private static void runExamples(String page) throws Exception {
    StringBuilder source = new StringBuilder("public class ReadmeExample {\npublic static void run() {\n");
    for (String line : exampleLines(page)) {
      source.append(comparing(line)).append('\n');
    }
    source.append("}\n}\n");
    int before = checks;
    Path dir = Files.createTempDirectory("readme");
    try {
      compileAndRun(dir, source.toString());
    } finally {
      remove(dir);
    }
    hold(checks - before > 30, "the examples were run");
  }

  private static void compileAndRun(Path dir, String source) throws Exception {
    Path file = dir.resolve("ReadmeExample.java");
    Files.writeString(file, source);
    ToolProvider javac = ToolProvider.findFirst("javac").orElse(null);
    hold(javac != null, "there is a compiler");
    if (javac == null) {
      return;
    }
    int exit = javac.run(System.out, System.out, "-cp", System.getProperty("java.class.path"), "-d", dir.toString(),
        file.toString());
    hold(exit == 0, "the examples compile");
    if (exit == 0) {
      try (URLClassLoader loader = new URLClassLoader(new URL[] {dir.toUri().toURL()}, ReadmeTest.class.getClassLoader())) {
        loader.loadClass("ReadmeExample").getMethod("run").invoke(null);
      }
    }
  }

  private static void remove(Path dir) throws IOException {
    try (Stream<Path> all = Files.walk(dir)) {
      for (Path path : all.sorted(Comparator.reverseOrder()).toList()) {
        Files.delete(path);
      }
    }
  }

  // ---- numbers and names in the text

  private static void refusals(String page) throws Exception {
    Matcher m = REFUSAL.matcher(page);
    int rows = 0;
    while (m.find()) {
      rows++;
      due(m.group(1), FiddleShares.class.getField(m.group(1)).getInt(null), Long.parseLong(m.group(2)));
    }
    due("rows of refusals", rows, 5);
    hold(page.contains("`NONE` (" + FiddleShares.NONE + ")"), "NONE has its number");
  }

  private static void findings(String page) {
    FiddleShares book = new FiddleShares();
    List<String> names = List.of("NOTHING", "BEYOND", "UNLIKE", "NOUGHT", "SIZE");
    String text = page.replaceAll("\\s+", " ");
    for (int f = 1; f <= names.size(); f++) {
      hold(text.contains(f + " " + names.get(f - 1) + " ("), "the FINDING " + f);
    }
    book.tear(0);
    due("a missing ROW", book.finding(), 1);
    book.row(0, 0);
    book.at(0, 0);
    due("a place that there is not", book.finding(), 2);
    book.mean(0);
    due("a mean of none", book.finding(), 4);
    book.row(0, -1);
    due("fewer than none", book.finding(), 5);
  }

  /** The list of tests on the page is that of the project. */
  private static void namedTests(String page) throws IOException {
    try (Stream<Path> files = Files.list(Path.of("src/test/java"))) {
      for (Path file : files.toList()) {
        String name = file.getFileName().toString().replace(".java", "");
        hold(page.contains("\n- `" + name + "`: "), "the page tells of " + name);
      }
    }
    Matcher m = Pattern.compile("(?m)^- `(\\w+Test)`: ").matcher(page);
    while (m.find()) {
      hold(Files.exists(Path.of("src/test/java", m.group(1) + ".java")), m.group(1) + " is there");
    }
  }
}
