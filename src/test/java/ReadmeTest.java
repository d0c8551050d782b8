import java.io.IOException;
import java.nio.file.Files;
import java.nio.file.Path;
import java.util.regex.Matcher;
import java.util.regex.Pattern;

/** README.md: each call shown there answers what stands beside it; it has each call and ERROR. */
public final class ReadmeTest extends Bench {
  private static final Path README = Path.of("README.md");
  private static final Path DOC = Path.of("../shared/DOC.md");
  private static final String MADE = "RainPurse purse = new RainPurse();";
  private static final Pattern ASKED =
      Pattern.compile("purse\\.(\\w+)\\(([^)]*)\\);\\s+// (-?\\d+): .+");
  private static final String[] ERRORS = {"BEYOND", "NONE", "STATE", "FULL", "KIND", "PARTED"};

  public static void main(String[] args) throws IOException {
    String readme = Files.readString(README);
    int blocks = 0;
    for (String part : readme.split("```java\n")) {
      if (blocks > 0) {
        blockHolds(part.substring(0, part.indexOf("```")));
      }
      blocks++;
    }
    about("README.md");
    need(blocks > 2, "it shows an object in use, and ERRORS");
    hasEachCall(readme, Files.readString(DOC));
    hasEachError(readme);
    end(ReadmeTest.class);
  }

  private static void blockHolds(String block) {
    Counted x = null;
    for (String line : block.split("\n")) {
      about("README.md, " + line);
      Matcher asked = ASKED.matcher(line);
      if (line.equals(MADE)) {
        x = new Counted();
      } else if (x != null && asked.matches()) {
        due(x.call(asked.group(1), numbers(asked.group(2))), Long.parseLong(asked.group(3)));
      } else {
        need(false, "is neither a call with its answer nor a new object");
      }
    }
  }

  private static long[] numbers(String told) {
    if (told.isEmpty()) {
      return new long[0];
    }
    String[] each = told.split(", ");
    long[] numbers = new long[each.length];
    for (int i = 0; i < each.length; i++) {
      numbers[i] = Long.decode(each[i].replace("L", ""));
    }
    return numbers;
  }

  private static void hasEachCall(String readme, String doc) {
    String face = doc.substring(doc.indexOf("## The public face"), doc.indexOf("## Terms"));
    Matcher calls = Pattern.compile("public \\w+ (\\w+)\\(").matcher(face);
    int found = 0;
    while (calls.find()) {
      found++;
      need(readme.contains("`" + calls.group(1) + "`"), calls.group(1) + " is missing");
    }
    due(found, 40);
  }

  private static void hasEachError(String readme) {
    for (int k = 1; k <= ERRORS.length; k++) {
      String row = "| " + ERRORS[k - 1] + " | " + (LOW - k) + " | " + (LONG_LOW - k) + " |";
      need(readme.contains(row), row + " is missing");
    }
  }
}
