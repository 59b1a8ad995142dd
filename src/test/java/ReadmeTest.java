import java.io.IOException;
import java.nio.file.Files;
import java.nio.file.Path;
import java.util.List;
import java.util.Set;
import java.util.TreeSet;
import java.util.regex.Matcher;
import java.util.regex.Pattern;
import java.util.stream.Collectors;
import java.util.stream.Stream;

/** README.md tells what the class answers and which tests there are. */
final class ReadmeTest {
  private static final Check CHECK = new Check("ReadmeTest");
  private static final String NEW_BOOK = "StrokeBook book = new StrokeBook();";
  private static final Pattern CALL = Pattern.compile("book\\.(\\w+\\([^)]*\\)); +// (-?\\d+)\\b.*");
  private static final Pattern TEST_NAME = Pattern.compile("`(\\w+Test)`");
  private static final int MOST_CALLS = 512;

  public static void main(String[] args) throws IOException {
    List<String> lines = Files.readAllLines(Path.of(args.length > 0 ? args[0] : "README.md"));
    examples(lines);
    everyTestIsNamed(lines);
    CHECK.finish();
  }

  /** All java blocks are one run; each of their lines must tell an answer. */
  private static void examples(List<String> lines) {
    StrokeBook book = null;
    boolean inJava = false;
    int calls = 0;
    for (String line : lines) {
      if (line.startsWith("```")) {
        inJava = line.equals("```java");
      } else if (inJava && line.equals(NEW_BOOK)) {
        book = new StrokeBook();
      } else if (inJava) {
        Matcher call = CALL.matcher(line);
        boolean told = call.matches();
        CHECK.holds("tells an answer: " + line, told && book != null);
        if (told && book != null) {
          CHECK.due(call.group(1), Told.answer(book, call.group(1)), Integer.parseInt(call.group(2)));
          calls++;
        }
      }
    }
    CHECK.holds("there are examples", calls > 0 && calls <= MOST_CALLS);
  }

  private static void everyTestIsNamed(List<String> lines) throws IOException {
    Set<String> named = new TreeSet<>();
    for (String line : lines) {
      Matcher name = TEST_NAME.matcher(line);
      while (name.find()) {
        named.add(name.group(1));
      }
    }
    try (Stream<Path> files = Files.list(Path.of("src/test/java"))) {
      Set<String> there = files.map(file -> file.getFileName().toString())
          .filter(file -> file.endsWith("Test.java")).map(file -> file.replace(".java", ""))
          .collect(Collectors.toCollection(TreeSet::new));
      CHECK.holds("named are " + named + ", there are " + there, named.equals(there));
    }
  }
}
