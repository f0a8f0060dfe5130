import java.nio.file.Files;
import java.nio.file.Path;
import java.util.List;
import java.util.regex.Matcher;
import java.util.regex.Pattern;

/** A coarse look at the rules of LANGUAGE.md that a pattern can see. */
public final class LanguageTest {
  private static final String[] RULED_OUT = {
      "->", "::", "Exact\\(", "\\btry\\b", "\\bcatch\\b", "\\bfinally\\b", "\\bsynchronized\\b", "\\bassert\\b",
      "\\bprotected\\b", "^package ", "\\bNaN\\b", "\"\\s*\\+", "\\+\\s*\"", "\\bSystem\\.(?!arraycopy)", "\\bHashMap\\b",
      "\\bequals\\(", "\\bhashCode\\b", "\\btoString\\b", "\\bLong\\.valueOf", "\\bObject\\b", "[^\\x00-\\x7F]",
      "static (?!final)(int|long|boolean|char|float|double)\\b[^(]*;", "static final (float|double)"};

  public static void main(String[] args) throws Exception {
    List<String> lines = Files.readAllLines(Path.of("src/main/java/Locihall.java"));
    for (String ruled : RULED_OUT) {
      Pattern pattern = Pattern.compile(ruled);
      for (int at = 0; at < lines.size(); at++) {
        String code = lines.get(at).replaceAll("//.*|/\\*\\*.*", "");
        Due.is("line " + (at + 1) + " is free of " + ruled, !pattern.matcher(code).find());
      }
    }
    Pattern use = Pattern.compile("^import (.*);");
    for (String line : lines) {
      Matcher found = use.matcher(line);
      if (found.find()) {
        Due.is("import " + found.group(1), found.group(1).matches("java\\.util\\.(Arrays|List|ArrayList|Iterator|NoSuchElementException)"));
      }
    }
    checkThrows(lines);
    checkDivisors(lines);
    checkLengths(lines);
    Due.end();
  }

  private static void checkThrows(List<String> lines) {
    Pattern right = Pattern.compile("throw new (IllegalState|IllegalArgument|IndexOutOfBounds|Arithmetic|UnsupportedOperation|NoSuchElement)"
        + "(Exception)?(Exception)\\((\"[^\"]*\")?\\);");
    for (String line : lines) {
      if (line.contains("throw ")) {
        Due.is("thrown plainly: " + line.trim(), right.matcher(line).find());
      }
    }
  }

  /** A number, a constant, or what was looked at: its own lines, or those ahead of it, show that it is not 0. */
  private static void checkDivisors(List<String> lines) {
    Pattern division = Pattern.compile(" [/%] (.*)");
    Pattern looked = Pattern.compile("(\\d+L?|[A-Z]+|score|groupSize|keysAtLocus"
        + "|\\(float\\) (count|all)|\\(double\\) all|\\(20f \\+ \\(float\\) hoursSince\\(trace\\)\\))(?![\\w.(]).*");
    int divisions = 0;
    for (int at = 0; at < lines.size(); at++) {
      String code = lines.get(at).replaceAll("//.*|/\\*\\*.*", "");
      Matcher found = division.matcher(code);
      for (int from = 0; found.find(from); from = found.start(1)) {
        divisions++;
        Due.is("a divisor that was looked at, at line " + (at + 1) + ": " + found.group(1), looked.matcher(found.group(1)).matches());
      }
    }
    Due.is("divisions are found", divisions > 10);
  }

  private static void checkLengths(List<String> lines) {
    int start = -1;
    for (int at = 0; at < lines.size(); at++) {
      String line = lines.get(at);
      boolean opens = line.matches(" {2,4}(private|public) [^=;]*\\{");
      if (opens && !line.contains(" class ")) {
        start = at;
      }
      if (start >= 0 && line.matches(" {2,4}\\}")) {
        Due.is("a short method at line " + (start + 1), at - start <= 60);
        start = -1;
      }
    }
  }
}
