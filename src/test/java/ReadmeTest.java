import java.io.ByteArrayOutputStream;
import java.io.File;
import java.io.PrintStream;
import java.nio.file.Files;
import java.nio.file.Path;
import java.util.ArrayList;
import java.util.List;
import java.util.TreeMap;
import java.util.TreeSet;
import java.util.regex.Matcher;
import java.util.regex.Pattern;

/** README.md has every call under its group, an example that answers as told, and every test. */
public final class ReadmeTest {
  public static void main(String[] args) throws Exception {
    String readme = Files.readString(Path.of("README.md"));
    String doc = Files.readString(Path.of("../shared/DOC.md"));
    checkCalls(readme, doc);
    checkExceptions(readme, doc);
    checkExample(readme);
    checkTests(readme);
    Due.end();
  }

  private static void checkCalls(String readme, String doc) {
    TreeMap<String, String> calls = callsByName(doc);
    int groups = 0;
    int told = 0;
    Matcher group = Pattern.compile("Ahead of the calls (.*) the interface says: ---- (.*)\\.").matcher(doc);
    while (group.find()) {
      groups++;
      String section = section(readme, "### " + group.group(2));
      TreeSet<String> want = new TreeSet<>();
      for (String name : group.group(1).replace("`", "").split(", ")) {
        want.add(calls.get(name));
      }
      TreeSet<String> got = new TreeSet<>();
      Matcher row = Pattern.compile("(?m)^\\| `([^`]*\\))` \\| [^|]+ \\|$").matcher(section);
      while (row.find()) {
        got.add(row.group(1));
      }
      Due.same("the calls of " + group.group(2), got, want);
      told += got.size();
    }
    Due.same("groups of calls", groups, 5);
    Due.same("calls in all groups", told, calls.size());
  }

  /** Each call of the document's face, as a caller writes it. */
  private static TreeMap<String, String> callsByName(String doc) {
    TreeMap<String, String> calls = new TreeMap<>();
    int start = doc.indexOf("```java");
    String face = doc.substring(start, doc.indexOf("```", start + 7));
    Matcher line = Pattern.compile("public \\w+ (\\w+)\\((.*?)\\)").matcher(face);
    while (line.find()) {
      calls.put(line.group(1), line.group(1) + "(" + line.group(2).replaceAll("\\w+ (\\w+)", "$1") + ")");
    }
    return calls;
  }

  private static void checkExceptions(String readme, String doc) {
    Matcher thrown = Pattern.compile("Throws `(\\w+)`").matcher(doc);
    TreeSet<String> names = new TreeSet<>();
    while (thrown.find()) {
      names.add(thrown.group(1));
    }
    for (String name : names) {
      Due.is(name + " is told", readme.contains("| `" + name + "` | "));
    }
    Due.same("exceptions", names.size(), 6);
  }

  private static void checkExample(String readme) throws Exception {
    int start = readme.indexOf("```java\n") + 8;
    String told = readme.substring(start, readme.indexOf("```", start));
    String example = Files.readString(Path.of("src/test/java/Example.java"));
    Due.is("the example is the one of Example.java", start > 8 && example.endsWith("*/\n" + told));
    List<String> want = new ArrayList<>();
    Matcher printed = Pattern.compile("System\\.out\\.println\\(hall\\..*\\); +// (.*)").matcher(told);
    while (printed.find()) {
      want.add(printed.group(1));
    }
    Due.same("each printed line has its answer", want.size(), told.split("println").length - 1);
    Due.is("an example of some length", want.size() >= 40);
    Due.same("what the example prints", printedByExample(), want);
  }

  private static List<String> printedByExample() {
    PrintStream before = System.out;
    ByteArrayOutputStream bytes = new ByteArrayOutputStream();
    System.setOut(new PrintStream(bytes));
    try {
      Example.main(new String[0]);
    } finally {
      System.out.flush();
      System.setOut(before);
    }
    return bytes.toString().lines().toList();
  }

  private static void checkTests(String readme) {
    String section = section(readme, "## Tests");
    Due.is("how to run the tests", section.contains("bash .ci/run"));
    File[] files = new File("src/test/java").listFiles();
    int tests = 0;
    for (File file : files == null ? new File[0] : files) {
      String name = file.getName().replace(".java", "");
      if (name.endsWith("Test")) {
        tests++;
        Due.is(name + " is told", section.contains("`" + name + "`"));
      }
    }
    Due.is("tests are found", tests > 10);
  }

  /** What stands under a heading, up to the next one. */
  private static String section(String readme, String heading) {
    int start = readme.indexOf("\n" + heading + "\n");
    Due.is("the heading " + heading, start >= 0);
    if (start < 0) {
      return "";
    }
    int end = readme.indexOf("\n#", start + heading.length() + 1);
    return readme.substring(start, end < 0 ? readme.length() : end);
  }
}
