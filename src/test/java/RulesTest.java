import java.io.IOException;
import java.nio.file.Files;
import java.nio.file.Path;
import java.util.List;
import java.util.Set;
import java.util.TreeSet;
import java.util.regex.Matcher;
import java.util.regex.Pattern;

/** What of LANGUAGE.md can be seen in the text of src/main/java/StrokeBook.java. */
final class RulesTest {
  private static final Check CHECK = new Check("RulesTest");
  /** Rules 2, 4, 5, 6 and 13. */
  private static final String[] NO_WORDS = {
    "package", "import", "throw", "throws", "try", "catch", "finally", "synchronized", "assert", "yield",
    "volatile", "transient", "native", "strictfp", "protected", "var", "Object", "Exception", "Error",
    "Thread", "equals", "hashCode", "toString", "float", "double", "StringBuilder", "String", "while\\s*\\(true",
  };
  /** Rule 4: of the library, only these are used. */
  private static final Set<String> LIBRARY = Set.of(
      "Math.abs", "Math.min", "Math.max", "Math.floorDiv", "Math.floorMod", "Integer.bitCount", "System.arraycopy");
  private static final int LONGEST_METHOD = 60;

  public static void main(String[] args) throws IOException {
    String text = Files.readString(Path.of(args.length > 0 ? args[0] : "src/main/java/StrokeBook.java"));
    CHECK.holds("signs 1 to 127 alone", text.chars().allMatch(c -> c > 0 && c < 128));
    String code = withoutComments(text);
    for (String word : NO_WORDS) {
      CHECK.holds("no " + word, !Pattern.compile("\\b" + word + "\\b").matcher(code).find());
    }
    CHECK.holds("no lambda", !code.contains("->"));
    CHECK.holds("no method reference", !code.contains("::"));
    CHECK.holds("no static block", !Pattern.compile("static\\s*\\{").matcher(code).find());
    library(code);
    rowsAreMadeInConstructors(code);
    methodsAreShort(code);
    CHECK.finish();
  }

  private static String withoutComments(String text) {
    return text.replaceAll("(?s)/\\*.*?\\*/", "").replaceAll("//[^\n]*", "");
  }

  private static void library(String code) {
    Set<String> used = new TreeSet<>();
    Matcher found = Pattern.compile("\\b(Math|Integer|Long|System|Arrays|Character|Boolean)\\.\\w+").matcher(code);
    while (found.find()) {
      used.add(found.group());
    }
    used.removeAll(LIBRARY);
    CHECK.holds("no other library: " + used, used.isEmpty());
  }

  /** Every new stands in a field's line or in the constructor, so no call makes anything. */
  private static void rowsAreMadeInConstructors(String code) {
    boolean inConstructor = false;
    for (String line : code.lines().toList()) {
      if (line.startsWith("  public StrokeBook()")) {
        inConstructor = true;
      } else if (line.equals("  }")) {
        inConstructor = false;
      }
      boolean field = line.matches("    (private )?final \\w+\\[\\] \\w+ = new .*;");
      CHECK.holds("made once: " + line, !line.matches(".*\\bnew\\b.*") || field || inConstructor);
    }
  }

  private static void methodsAreShort(String code) {
    List<String> lines = code.lines().toList();
    int start = -1;
    for (int n = 0; n < lines.size(); n++) {
      String line = lines.get(n);
      if (line.matches("(  ){1,2}[a-z][\\w\\[\\] ]*\\(.*\\) \\{")) {
        start = n;
      } else if (line.matches("(  ){1,2}\\}") && start >= 0) {
        CHECK.holds("short: " + lines.get(start), n - start < LONGEST_METHOD);
        start = -1;
      }
    }
  }
}
