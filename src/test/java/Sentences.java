import java.io.IOException;
import java.nio.file.Files;
import java.nio.file.Path;
import java.util.ArrayList;
import java.util.List;
import java.util.Map;
import java.util.TreeMap;

/** The sentences of the document by their sections; of a promise, its lines. */
final class Sentences {
  private static final Path DOCUMENT = Path.of("..", "shared", "DOC.md");
  /** Other lines of the promises only name what a number is the number of, or repeat their heading. */
  private static final String NAMES_A_CASE =
      "Throws .*|.*(\\d|'.'|no meaning|none|neither|empty|included|greatest|unlike).*";

  private final Map<String, List<String>> sections = new TreeMap<>();

  Sentences() throws IOException {
    for (String part : Files.readString(DOCUMENT).split("(?m)^## ")) {
      String heading = part.substring(0, part.indexOf('\n'));
      boolean isPromise = heading.startsWith("Promise");
      List<String> sentences = new ArrayList<>();
      for (String paragraph : part.substring(heading.length()).split(isPromise ? "\n\n|\n(?=- )" : "\n\n")) {
        String line = paragraph.trim().replaceAll("\\s+", " ");
        sentences.addAll(List.of(isPromise ? new String[] {line} : line.split("(?<=\\.) (?=[A-Z'])")));
      }
      sections.put(heading, sentences);
    }
  }

  boolean hold(Edges.Edge edge) {
    for (String sentence : sections.getOrDefault(edge.section, List.of())) {
      if (sentence.contains(edge.sentence)) return true;
    }
    return false;
  }

  /** Tells of each sentence that names a boundary case whether one of the edges is its own. */
  void check(Check check, List<Edges.Edge> edges) {
    for (String section : sections.keySet()) {
      for (String sentence : sections.get(section)) {
        if (!namesACase(section, sentence)) continue;
        check.tell(section + ", \"" + sentence + "\"", hasEdge(edges, section, sentence), "has no edge");
      }
    }
  }

  private static boolean namesACase(String section, String sentence) {
    if (section.startsWith("Promise")) return withoutSignature(sentence).matches(NAMES_A_CASE);
    if (section.equals("Terms")) return sentence.contains(" ") && !sentence.startsWith("Ahead of the calls");
    return section.equals("What it is") && sentence.matches(".*\\d.*");
  }

  private static String withoutSignature(String line) {
    return line.replaceFirst("^`.*`: ", "");
  }

  private static boolean hasEdge(List<Edges.Edge> edges, String section, String sentence) {
    for (Edges.Edge edge : edges) {
      if (edge.section.equals(section) && sentence.contains(edge.sentence)) return true;
    }
    return false;
  }
}
