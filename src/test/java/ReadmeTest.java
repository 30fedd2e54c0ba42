import java.io.IOException;
import java.nio.file.Files;
import java.nio.file.Path;
import java.util.regex.Matcher;
import java.util.regex.Pattern;

/** The run of calls in README.md, with the answers that stand behind them. */
public final class ReadmeTest {
  private static final Pattern ROW =
      Pattern.compile("cell\\.(\\w+\\([^)]*\\)); *// (throws \\w+|[-.\\w]+).*");

  public static void main(String[] args) throws IOException {
    StringBuilder run = new StringBuilder();
    int rows = 0;
    for (String row : Files.readAllLines(Path.of("README.md"))) {
      if (row.startsWith("cell.")) {
        run.append(asRun(row));
        rows++;
      }
    }
    Check.same("README.md: it has a run of calls", rows > 10, true);
    Runs.holds("README.md", run.toString());
    Check.end("ReadmeTest");
  }

  private static String asRun(String row) {
    Matcher matcher = ROW.matcher(row);
    boolean isCall = matcher.matches();
    Check.same("README.md: a call and its answer in " + row, isCall, true);
    return isCall ? matcher.group(1) + ": " + shortened(matcher.group(2)) + "\n" : "";
  }

  private static String shortened(String answer) {
    return answer.replace("throws IndexOutOfBoundsException", "!Index")
        .replace("throws IllegalArgumentException", "!Argument")
        .replace("throws IllegalStateException", "!State");
  }
}
