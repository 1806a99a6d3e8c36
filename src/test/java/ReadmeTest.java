import java.io.IOException;
import java.nio.file.Files;
import java.nio.file.Path;
import java.util.List;
import java.util.Map;
import java.util.TreeMap;
import java.util.regex.Matcher;
import java.util.regex.Pattern;

/** README.md tells the truth: its example is answered so, and its table has every call. Run from the project's folder. */
public final class ReadmeTest {
  private static final Pattern EXAMPLE = Pattern.compile("(?m)^mill\\.(\\w+\\([^)]*\\));\\s*// (-?\\d+):");
  private static final Pattern ROW = Pattern.compile("(?m)^\\| `(\\w+)\\(([^)]*)\\)` \\|[^|]+\\|([^|]*)\\|$");
  private static final Runs RUNS = new Runs();

  public static void main(String[] args) throws IOException {
    String text = Files.readString(Path.of("README.md"));
    example(text);
    table(text);
    for (String part : List.of("new PaperMill()", ".ci/run", "../shared/tests")) {
      if (!text.contains(part)) RUNS.complain("README.md", "does not tell of " + part);
    }
    RUNS.end();
  }

  private static void example(String text) {
    StringBuilder calls = new StringBuilder();
    Matcher m = EXAMPLE.matcher(text);
    int found = 0;
    while (m.find()) {
      calls.append(m.group(1)).append('=').append(m.group(2)).append(' ');
      found++;
    }
    long lines = text.lines().filter(line -> line.startsWith("mill.")).count();
    if (found == 0 || found != lines) RUNS.complain("example", lines + " calls, but " + found + " answers");
    RUNS.say("example", Runs.read(calls.toString()));
  }

  private static void table(String text) {
    Map<String, String> refusals = new TreeMap<>();
    for (String row : EdgesOfPromisesTest.REFUSALS) {
      String[] words = row.split(" ", 2);
      refusals.put(words[0], words[1]);
    }
    Map<String, String> rows = new TreeMap<>();
    Matcher m = ROW.matcher(text);
    while (m.find()) {
      int many = m.group(2).isBlank() ? 0 : m.group(2).split(",").length;
      if (many != Calls.ARGUMENTS[Calls.numberOf(m.group(1))]) RUNS.complain("table", m.group(1) + " takes not " + many);
      if (rows.put(m.group(1), m.group(3).trim()) != null) RUNS.complain("table", m.group(1) + " stands twice");
    }
    for (String name : Calls.NAMES) {
      String due = refusals.getOrDefault(name, "");
      if (!due.equals(rows.get(name))) RUNS.complain("table", name + " has refusals " + rows.get(name) + ", due are " + due);
    }
  }
}
