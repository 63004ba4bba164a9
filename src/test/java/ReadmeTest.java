import java.io.IOException;
import java.nio.file.Files;
import java.nio.file.Path;
import java.util.Map;
import java.util.TreeMap;
import java.util.regex.Matcher;
import java.util.regex.Pattern;

/** The example in README.md runs, and its calls answer what stands behind them. */
public final class ReadmeTest {
  private static final Pattern CALL =
      Pattern.compile("(?:\\w+ (\\w+) = )?index\\.(\\w+)\\((.*?)\\);(?:\\s*// (-?\\d+|[a-z]$).*)?");
  private static final int LEAST_ANSWERS = 20;

  private final Check check = new Check("ReadmeTest");
  private final Calls calls = new Calls(new TallowIndex());
  private final Map<String, String> variables = new TreeMap<>();
  private int answers;

  public static void main(String[] args) throws IOException {
    new ReadmeTest().run();
  }

  private void run() throws IOException {
    String readme = Files.readString(Path.of("README.md"));
    int start = readme.indexOf("```java\n");
    int end = readme.indexOf("```", start + 3);
    for (String line : readme.substring(start, end).split("\n")) {
      if (line.contains("index.")) runLine(line);
    }
    check.tell("README.md", answers >= LEAST_ANSWERS, "tells only " + answers + " answers");
    check.end();
  }

  private void runLine(String line) {
    Matcher call = CALL.matcher(line);
    if (!call.matches()) {
      check.tell(line, false, "is no call that this test can read");
      return;
    }
    String answer = calls.answer(call.group(2), arguments(call.group(3)));
    check.tell(line, !answer.startsWith("throws"), answer);
    if (call.group(1) != null) variables.put(call.group(1), answer);
    if (call.group(4) == null) return;
    check.due(line, call.group(4), answer);
    answers++;
  }

  private Object[] arguments(String written) {
    if (written.isEmpty()) return new Object[0];
    String[] parts = written.split(", ");
    Object[] arguments = new Object[parts.length];
    for (int i = 0; i < parts.length; i++) arguments[i] = argument(parts[i]);
    return arguments;
  }

  private Object argument(String written) {
    if (written.startsWith("'")) return written.charAt(1);
    return Integer.parseInt(variables.getOrDefault(written, written));
  }
}
